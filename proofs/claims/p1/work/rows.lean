section
/-- a private method of a class that the tables say can be made, by its rows of tables_1 -/
def lw_okq (q : MethodName × Nat) : Prop := (q.1.cls ≠ "java/lang/invoke/MethodHandle" ∧ q.1.cls ≠ "java/lang/invoke/VarHandle") ∧ Cond.instantiable q.1.cls q.2 ∈ tables_1 ∧ Cond.privateMethod q.1 ∈ tables_1 ∧ Cond.instanceMethod q.1 ∈ tables_1
theorem lw_p0 : lw_okq (⟨"ObjectRules", "begin", "()V"⟩, 12) := ⟨⟨by decide +kernel, by decide +kernel⟩, List.mem_of_getElem? (i := 23) (by decide +kernel), List.mem_of_getElem? (i := 207) (by decide +kernel), List.mem_of_getElem? (i := 208) (by decide +kernel)⟩
theorem lw_p1 : lw_okq (⟨"ObjectRules", "requirePrototype", "(I)V"⟩, 12) := ⟨⟨by decide +kernel, by decide +kernel⟩, List.mem_of_getElem? (i := 23) (by decide +kernel), List.mem_of_getElem? (i := 219) (by decide +kernel), List.mem_of_getElem? (i := 220) (by decide +kernel)⟩
theorem lw_p2 : lw_okq (⟨"ObjectRules", "requireObject", "(I)V"⟩, 12) := ⟨⟨by decide +kernel, by decide +kernel⟩, List.mem_of_getElem? (i := 23) (by decide +kernel), List.mem_of_getElem? (i := 223) (by decide +kernel), List.mem_of_getElem? (i := 224) (by decide +kernel)⟩
theorem lw_p3 : lw_okq (⟨"ObjectRules$Store", "rowOf", "(I)I"⟩, 14) := ⟨⟨by decide +kernel, by decide +kernel⟩, List.mem_of_getElem? (i := 31) (by decide +kernel), List.mem_of_getElem? (i := 231) (by decide +kernel), List.mem_of_getElem? (i := 232) (by decide +kernel)⟩
theorem lw_p4 : lw_okq (⟨"java/lang/Throwable", "fillInStackTrace", "(I)Ljava/lang/Throwable;"⟩, 6) := ⟨⟨by decide +kernel, by decide +kernel⟩, List.mem_of_getElem? (i := 277) (by decide +kernel), List.mem_of_getElem? (i := 275) (by decide +kernel), List.mem_of_getElem? (i := 276) (by decide +kernel)⟩
theorem lw_p5 : lw_okq (⟨"ObjectRules$Store", "add", "(II)I"⟩, 14) := ⟨⟨by decide +kernel, by decide +kernel⟩, List.mem_of_getElem? (i := 31) (by decide +kernel), List.mem_of_getElem? (i := 311) (by decide +kernel), List.mem_of_getElem? (i := 312) (by decide +kernel)⟩
theorem lw_p6 : lw_okq (⟨"ObjectRules$Store", "isSlot", "(I)Z"⟩, 14) := ⟨⟨by decide +kernel, by decide +kernel⟩, List.mem_of_getElem? (i := 31) (by decide +kernel), List.mem_of_getElem? (i := 348) (by decide +kernel), List.mem_of_getElem? (i := 349) (by decide +kernel)⟩
theorem lw_p7 : lw_okq (⟨"ObjectRules$Store", "firstSlotOf", "(I)I"⟩, 14) := ⟨⟨by decide +kernel, by decide +kernel⟩, List.mem_of_getElem? (i := 31) (by decide +kernel), List.mem_of_getElem? (i := 353) (by decide +kernel), List.mem_of_getElem? (i := 354) (by decide +kernel)⟩
theorem lw_p8 : lw_okq (⟨"ObjectRules$Store", "slotBefore", "(II)I"⟩, 14) := ⟨⟨by decide +kernel, by decide +kernel⟩, List.mem_of_getElem? (i := 31) (by decide +kernel), List.mem_of_getElem? (i := 357) (by decide +kernel), List.mem_of_getElem? (i := 358) (by decide +kernel)⟩
theorem lw_p9 : lw_okq (⟨"ObjectRules$Store", "nextOf", "(I)I"⟩, 14) := ⟨⟨by decide +kernel, by decide +kernel⟩, List.mem_of_getElem? (i := 31) (by decide +kernel), List.mem_of_getElem? (i := 364) (by decide +kernel), List.mem_of_getElem? (i := 365) (by decide +kernel)⟩
theorem lw_p10 : lw_okq (⟨"ObjectRules$Store", "link", "(III)V"⟩, 14) := ⟨⟨by decide +kernel, by decide +kernel⟩, List.mem_of_getElem? (i := 31) (by decide +kernel), List.mem_of_getElem? (i := 368) (by decide +kernel), List.mem_of_getElem? (i := 369) (by decide +kernel)⟩
theorem lw_p11 : lw_okq (⟨"ObjectRules$Store", "putFlagsAt", "(II)V"⟩, 14) := ⟨⟨by decide +kernel, by decide +kernel⟩, List.mem_of_getElem? (i := 31) (by decide +kernel), List.mem_of_getElem? (i := 376) (by decide +kernel), List.mem_of_getElem? (i := 377) (by decide +kernel)⟩
theorem lw_p12 : lw_okq (⟨"ObjectRules", "requireKey", "(I)V"⟩, 12) := ⟨⟨by decide +kernel, by decide +kernel⟩, List.mem_of_getElem? (i := 23) (by decide +kernel), List.mem_of_getElem? (i := 388) (by decide +kernel), List.mem_of_getElem? (i := 389) (by decide +kernel)⟩
theorem lw_p13 : lw_okq (⟨"ObjectRules", "requireValue", "(I)V"⟩, 12) := ⟨⟨by decide +kernel, by decide +kernel⟩, List.mem_of_getElem? (i := 23) (by decide +kernel), List.mem_of_getElem? (i := 393) (by decide +kernel), List.mem_of_getElem? (i := 394) (by decide +kernel)⟩
theorem lw_p14 : lw_okq (⟨"ObjectRules$Store", "putParts", "(IIII)V"⟩, 14) := ⟨⟨by decide +kernel, by decide +kernel⟩, List.mem_of_getElem? (i := 31) (by decide +kernel), List.mem_of_getElem? (i := 402) (by decide +kernel), List.mem_of_getElem? (i := 403) (by decide +kernel)⟩
theorem lw_p15 : lw_okq (⟨"ObjectRules$Store", "kindOf", "(I)I"⟩, 14) := ⟨⟨by decide +kernel, by decide +kernel⟩, List.mem_of_getElem? (i := 31) (by decide +kernel), List.mem_of_getElem? (i := 428) (by decide +kernel), List.mem_of_getElem? (i := 429) (by decide +kernel)⟩
def lw_privs_1 : List (MethodName × Nat) := [(⟨"ObjectRules", "begin", "()V"⟩, 12), (⟨"ObjectRules", "requirePrototype", "(I)V"⟩, 12), (⟨"ObjectRules", "requireObject", "(I)V"⟩, 12), (⟨"ObjectRules$Store", "rowOf", "(I)I"⟩, 14), (⟨"java/lang/Throwable", "fillInStackTrace", "(I)Ljava/lang/Throwable;"⟩, 6), (⟨"ObjectRules$Store", "add", "(II)I"⟩, 14), (⟨"ObjectRules$Store", "isSlot", "(I)Z"⟩, 14), (⟨"ObjectRules$Store", "firstSlotOf", "(I)I"⟩, 14), (⟨"ObjectRules$Store", "slotBefore", "(II)I"⟩, 14), (⟨"ObjectRules$Store", "nextOf", "(I)I"⟩, 14), (⟨"ObjectRules$Store", "link", "(III)V"⟩, 14), (⟨"ObjectRules$Store", "putFlagsAt", "(II)V"⟩, 14), (⟨"ObjectRules", "requireKey", "(I)V"⟩, 12), (⟨"ObjectRules", "requireValue", "(I)V"⟩, 12), (⟨"ObjectRules$Store", "putParts", "(IIII)V"⟩, 14), (⟨"ObjectRules$Store", "kindOf", "(I)I"⟩, 14)]
theorem lw_r1 : ∀ q ∈ lw_privs_1, lw_okq q := List.forall_mem_cons.mpr ⟨lw_p0, List.forall_mem_cons.mpr ⟨lw_p1, List.forall_mem_cons.mpr ⟨lw_p2, List.forall_mem_cons.mpr ⟨lw_p3, List.forall_mem_cons.mpr ⟨lw_p4, List.forall_mem_cons.mpr ⟨lw_p5, List.forall_mem_cons.mpr ⟨lw_p6, List.forall_mem_cons.mpr ⟨lw_p7, List.forall_mem_cons.mpr ⟨lw_p8, List.forall_mem_cons.mpr ⟨lw_p9, List.forall_mem_cons.mpr ⟨lw_p10, List.forall_mem_cons.mpr ⟨lw_p11, List.forall_mem_cons.mpr ⟨lw_p12, List.forall_mem_cons.mpr ⟨lw_p13, List.forall_mem_cons.mpr ⟨lw_p14, List.forall_mem_cons.mpr ⟨lw_p15, fun _ h => absurd h List.not_mem_nil⟩⟩⟩⟩⟩⟩⟩⟩⟩⟩⟩⟩⟩⟩⟩⟩
theorem lw_p16 : lw_okq (⟨"ObjectRules$Store", "partOf", "(I[I)I"⟩, 14) := ⟨⟨by decide +kernel, by decide +kernel⟩, List.mem_of_getElem? (i := 31) (by decide +kernel), List.mem_of_getElem? (i := 437) (by decide +kernel), List.mem_of_getElem? (i := 438) (by decide +kernel)⟩
theorem lw_p17 : lw_okq (⟨"ObjectRules", "requireReceiver", "(IZ)V"⟩, 12) := ⟨⟨by decide +kernel, by decide +kernel⟩, List.mem_of_getElem? (i := 23) (by decide +kernel), List.mem_of_getElem? (i := 455) (by decide +kernel), List.mem_of_getElem? (i := 456) (by decide +kernel)⟩
theorem lw_p18 : lw_okq (⟨"ObjectRules", "getFrom", "(III)I"⟩, 12) := ⟨⟨by decide +kernel, by decide +kernel⟩, List.mem_of_getElem? (i := 23) (by decide +kernel), List.mem_of_getElem? (i := 459) (by decide +kernel), List.mem_of_getElem? (i := 460) (by decide +kernel)⟩
theorem lw_p19 : lw_okq (⟨"ObjectRules", "proxyGet", "(III)I"⟩, 12) := ⟨⟨by decide +kernel, by decide +kernel⟩, List.mem_of_getElem? (i := 23) (by decide +kernel), List.mem_of_getElem? (i := 477) (by decide +kernel), List.mem_of_getElem? (i := 478) (by decide +kernel)⟩
theorem lw_p20 : lw_okq (⟨"ObjectRules", "enterProxy", "(I)V"⟩, 12) := ⟨⟨by decide +kernel, by decide +kernel⟩, List.mem_of_getElem? (i := 23) (by decide +kernel), List.mem_of_getElem? (i := 481) (by decide +kernel), List.mem_of_getElem? (i := 482) (by decide +kernel)⟩
theorem lw_p21 : lw_okq (⟨"ObjectRules", "enter", "()V"⟩, 12) := ⟨⟨by decide +kernel, by decide +kernel⟩, List.mem_of_getElem? (i := 23) (by decide +kernel), List.mem_of_getElem? (i := 485) (by decide +kernel), List.mem_of_getElem? (i := 486) (by decide +kernel)⟩
theorem lw_p22 : lw_okq (⟨"ObjectRules", "reach", "(I)V"⟩, 12) := ⟨⟨by decide +kernel, by decide +kernel⟩, List.mem_of_getElem? (i := 23) (by decide +kernel), List.mem_of_getElem? (i := 489) (by decide +kernel), List.mem_of_getElem? (i := 490) (by decide +kernel)⟩
theorem lw_p23 : lw_okq (⟨"ObjectRules", "trapOf", "(II)I"⟩, 12) := ⟨⟨by decide +kernel, by decide +kernel⟩, List.mem_of_getElem? (i := 23) (by decide +kernel), List.mem_of_getElem? (i := 515) (by decide +kernel), List.mem_of_getElem? (i := 516) (by decide +kernel)⟩
theorem lw_p24 : lw_okq (⟨"ObjectRules", "getTrapOf", "(I)I"⟩, 12) := ⟨⟨by decide +kernel, by decide +kernel⟩, List.mem_of_getElem? (i := 23) (by decide +kernel), List.mem_of_getElem? (i := 519) (by decide +kernel), List.mem_of_getElem? (i := 520) (by decide +kernel)⟩
theorem lw_p25 : lw_okq (⟨"ObjectRules", "askHandler", "(II)I"⟩, 12) := ⟨⟨by decide +kernel, by decide +kernel⟩, List.mem_of_getElem? (i := 23) (by decide +kernel), List.mem_of_getElem? (i := 538) (by decide +kernel), List.mem_of_getElem? (i := 539) (by decide +kernel)⟩
theorem lw_p26 : lw_okq (⟨"ObjectRules", "invoke", "(IIIIIII)I"⟩, 12) := ⟨⟨by decide +kernel, by decide +kernel⟩, List.mem_of_getElem? (i := 23) (by decide +kernel), List.mem_of_getElem? (i := 559) (by decide +kernel), List.mem_of_getElem? (i := 560) (by decide +kernel)⟩
theorem lw_p27 : lw_okq (⟨"ObjectRules", "enterFunction", "(I)V"⟩, 12) := ⟨⟨by decide +kernel, by decide +kernel⟩, List.mem_of_getElem? (i := 23) (by decide +kernel), List.mem_of_getElem? (i := 563) (by decide +kernel), List.mem_of_getElem? (i := 564) (by decide +kernel)⟩
theorem lw_p28 : lw_okq (⟨"ObjectRules", "readFrom", "(II)I"⟩, 12) := ⟨⟨by decide +kernel, by decide +kernel⟩, List.mem_of_getElem? (i := 23) (by decide +kernel), List.mem_of_getElem? (i := 580) (by decide +kernel), List.mem_of_getElem? (i := 581) (by decide +kernel)⟩
theorem lw_p29 : lw_okq (⟨"ObjectRules", "writeTo", "(III)V"⟩, 12) := ⟨⟨by decide +kernel, by decide +kernel⟩, List.mem_of_getElem? (i := 23) (by decide +kernel), List.mem_of_getElem? (i := 584) (by decide +kernel), List.mem_of_getElem? (i := 585) (by decide +kernel)⟩
theorem lw_p30 : lw_okq (⟨"ObjectRules", "setOrThrow", "(III)V"⟩, 12) := ⟨⟨by decide +kernel, by decide +kernel⟩, List.mem_of_getElem? (i := 23) (by decide +kernel), List.mem_of_getElem? (i := 588) (by decide +kernel), List.mem_of_getElem? (i := 589) (by decide +kernel)⟩
theorem lw_p31 : lw_okq (⟨"ObjectRules", "setIn", "(IIII)Z"⟩, 12) := ⟨⟨by decide +kernel, by decide +kernel⟩, List.mem_of_getElem? (i := 23) (by decide +kernel), List.mem_of_getElem? (i := 592) (by decide +kernel), List.mem_of_getElem? (i := 593) (by decide +kernel)⟩
def lw_privs_2 : List (MethodName × Nat) := [(⟨"ObjectRules$Store", "partOf", "(I[I)I"⟩, 14), (⟨"ObjectRules", "requireReceiver", "(IZ)V"⟩, 12), (⟨"ObjectRules", "getFrom", "(III)I"⟩, 12), (⟨"ObjectRules", "proxyGet", "(III)I"⟩, 12), (⟨"ObjectRules", "enterProxy", "(I)V"⟩, 12), (⟨"ObjectRules", "enter", "()V"⟩, 12), (⟨"ObjectRules", "reach", "(I)V"⟩, 12), (⟨"ObjectRules", "trapOf", "(II)I"⟩, 12), (⟨"ObjectRules", "getTrapOf", "(I)I"⟩, 12), (⟨"ObjectRules", "askHandler", "(II)I"⟩, 12), (⟨"ObjectRules", "invoke", "(IIIIIII)I"⟩, 12), (⟨"ObjectRules", "enterFunction", "(I)V"⟩, 12), (⟨"ObjectRules", "readFrom", "(II)I"⟩, 12), (⟨"ObjectRules", "writeTo", "(III)V"⟩, 12), (⟨"ObjectRules", "setOrThrow", "(III)V"⟩, 12), (⟨"ObjectRules", "setIn", "(IIII)Z"⟩, 12)]
theorem lw_r2 : ∀ q ∈ lw_privs_2, lw_okq q := List.forall_mem_cons.mpr ⟨lw_p16, List.forall_mem_cons.mpr ⟨lw_p17, List.forall_mem_cons.mpr ⟨lw_p18, List.forall_mem_cons.mpr ⟨lw_p19, List.forall_mem_cons.mpr ⟨lw_p20, List.forall_mem_cons.mpr ⟨lw_p21, List.forall_mem_cons.mpr ⟨lw_p22, List.forall_mem_cons.mpr ⟨lw_p23, List.forall_mem_cons.mpr ⟨lw_p24, List.forall_mem_cons.mpr ⟨lw_p25, List.forall_mem_cons.mpr ⟨lw_p26, List.forall_mem_cons.mpr ⟨lw_p27, List.forall_mem_cons.mpr ⟨lw_p28, List.forall_mem_cons.mpr ⟨lw_p29, List.forall_mem_cons.mpr ⟨lw_p30, List.forall_mem_cons.mpr ⟨lw_p31, fun _ h => absurd h List.not_mem_nil⟩⟩⟩⟩⟩⟩⟩⟩⟩⟩⟩⟩⟩⟩⟩⟩
theorem lw_p32 : lw_okq (⟨"ObjectRules", "setOnReceiver", "(III)Z"⟩, 12) := ⟨⟨by decide +kernel, by decide +kernel⟩, List.mem_of_getElem? (i := 23) (by decide +kernel), List.mem_of_getElem? (i := 596) (by decide +kernel), List.mem_of_getElem? (i := 597) (by decide +kernel)⟩
theorem lw_p33 : lw_okq (⟨"ObjectRules$Descriptors", "at", "(II)LObjectRules$Descriptor;"⟩, 1) := ⟨⟨by decide +kernel, by decide +kernel⟩, List.mem_of_getElem? (i := 82) (by decide +kernel), List.mem_of_getElem? (i := 604) (by decide +kernel), List.mem_of_getElem? (i := 605) (by decide +kernel)⟩
theorem lw_p34 : lw_okq (⟨"ObjectRules", "ownOf", "(IILObjectRules$Descriptor;)Z"⟩, 12) := ⟨⟨by decide +kernel, by decide +kernel⟩, List.mem_of_getElem? (i := 23) (by decide +kernel), List.mem_of_getElem? (i := 608) (by decide +kernel), List.mem_of_getElem? (i := 609) (by decide +kernel)⟩
theorem lw_p35 : lw_okq (⟨"ObjectRules", "proxyOwn", "(IILObjectRules$Descriptor;)Z"⟩, 12) := ⟨⟨by decide +kernel, by decide +kernel⟩, List.mem_of_getElem? (i := 23) (by decide +kernel), List.mem_of_getElem? (i := 612) (by decide +kernel), List.mem_of_getElem? (i := 613) (by decide +kernel)⟩
theorem lw_p36 : lw_okq (⟨"ObjectRules", "checkOwn", "(IIILObjectRules$Descriptor;)Z"⟩, 12) := ⟨⟨by decide +kernel, by decide +kernel⟩, List.mem_of_getElem? (i := 23) (by decide +kernel), List.mem_of_getElem? (i := 616) (by decide +kernel), List.mem_of_getElem? (i := 617) (by decide +kernel)⟩
theorem lw_p37 : lw_okq (⟨"ObjectRules", "requireRemovable", "(ILObjectRules$Descriptor;)V"⟩, 12) := ⟨⟨by decide +kernel, by decide +kernel⟩, List.mem_of_getElem? (i := 23) (by decide +kernel), List.mem_of_getElem? (i := 625) (by decide +kernel), List.mem_of_getElem? (i := 626) (by decide +kernel)⟩
theorem lw_p38 : lw_okq (⟨"ObjectRules", "isExtensible", "(I)Z"⟩, 12) := ⟨⟨by decide +kernel, by decide +kernel⟩, List.mem_of_getElem? (i := 23) (by decide +kernel), List.mem_of_getElem? (i := 634) (by decide +kernel), List.mem_of_getElem? (i := 635) (by decide +kernel)⟩
theorem lw_p39 : lw_okq (⟨"ObjectRules", "proxyIsExtensible", "(I)Z"⟩, 12) := ⟨⟨by decide +kernel, by decide +kernel⟩, List.mem_of_getElem? (i := 23) (by decide +kernel), List.mem_of_getElem? (i := 638) (by decide +kernel), List.mem_of_getElem? (i := 639) (by decide +kernel)⟩
theorem lw_p40 : lw_okq (⟨"ObjectRules", "leave", "()V"⟩, 12) := ⟨⟨by decide +kernel, by decide +kernel⟩, List.mem_of_getElem? (i := 23) (by decide +kernel), List.mem_of_getElem? (i := 646) (by decide +kernel), List.mem_of_getElem? (i := 647) (by decide +kernel)⟩
theorem lw_p41 : lw_okq (⟨"ObjectRules", "readDescriptor", "(ILObjectRules$Descriptor;)V"⟩, 12) := ⟨⟨by decide +kernel, by decide +kernel⟩, List.mem_of_getElem? (i := 23) (by decide +kernel), List.mem_of_getElem? (i := 659) (by decide +kernel), List.mem_of_getElem? (i := 660) (by decide +kernel)⟩
theorem lw_p42 : lw_okq (⟨"ObjectRules", "readFlag", "(IIILObjectRules$Descriptor;)V"⟩, 12) := ⟨⟨by decide +kernel, by decide +kernel⟩, List.mem_of_getElem? (i := 23) (by decide +kernel), List.mem_of_getElem? (i := 664) (by decide +kernel), List.mem_of_getElem? (i := 665) (by decide +kernel)⟩
theorem lw_p43 : lw_okq (⟨"ObjectRules", "hasIn", "(II)Z"⟩, 12) := ⟨⟨by decide +kernel, by decide +kernel⟩, List.mem_of_getElem? (i := 23) (by decide +kernel), List.mem_of_getElem? (i := 668) (by decide +kernel), List.mem_of_getElem? (i := 669) (by decide +kernel)⟩
theorem lw_p44 : lw_okq (⟨"ObjectRules", "proxyHas", "(II)Z"⟩, 12) := ⟨⟨by decide +kernel, by decide +kernel⟩, List.mem_of_getElem? (i := 23) (by decide +kernel), List.mem_of_getElem? (i := 672) (by decide +kernel), List.mem_of_getElem? (i := 673) (by decide +kernel)⟩
theorem lw_p45 : lw_okq (⟨"ObjectRules", "checkHidden", "(II)V"⟩, 12) := ⟨⟨by decide +kernel, by decide +kernel⟩, List.mem_of_getElem? (i := 23) (by decide +kernel), List.mem_of_getElem? (i := 676) (by decide +kernel), List.mem_of_getElem? (i := 677) (by decide +kernel)⟩
theorem lw_p46 : lw_okq (⟨"ObjectRules", "requireCallable", "(I)V"⟩, 12) := ⟨⟨by decide +kernel, by decide +kernel⟩, List.mem_of_getElem? (i := 23) (by decide +kernel), List.mem_of_getElem? (i := 692) (by decide +kernel), List.mem_of_getElem? (i := 693) (by decide +kernel)⟩
theorem lw_p47 : lw_okq (⟨"ObjectRules", "requireOneKind", "(LObjectRules$Descriptor;)V"⟩, 12) := ⟨⟨by decide +kernel, by decide +kernel⟩, List.mem_of_getElem? (i := 23) (by decide +kernel), List.mem_of_getElem? (i := 701) (by decide +kernel), List.mem_of_getElem? (i := 702) (by decide +kernel)⟩
def lw_privs_3 : List (MethodName × Nat) := [(⟨"ObjectRules", "setOnReceiver", "(III)Z"⟩, 12), (⟨"ObjectRules$Descriptors", "at", "(II)LObjectRules$Descriptor;"⟩, 1), (⟨"ObjectRules", "ownOf", "(IILObjectRules$Descriptor;)Z"⟩, 12), (⟨"ObjectRules", "proxyOwn", "(IILObjectRules$Descriptor;)Z"⟩, 12), (⟨"ObjectRules", "checkOwn", "(IIILObjectRules$Descriptor;)Z"⟩, 12), (⟨"ObjectRules", "requireRemovable", "(ILObjectRules$Descriptor;)V"⟩, 12), (⟨"ObjectRules", "isExtensible", "(I)Z"⟩, 12), (⟨"ObjectRules", "proxyIsExtensible", "(I)Z"⟩, 12), (⟨"ObjectRules", "leave", "()V"⟩, 12), (⟨"ObjectRules", "readDescriptor", "(ILObjectRules$Descriptor;)V"⟩, 12), (⟨"ObjectRules", "readFlag", "(IIILObjectRules$Descriptor;)V"⟩, 12), (⟨"ObjectRules", "hasIn", "(II)Z"⟩, 12), (⟨"ObjectRules", "proxyHas", "(II)Z"⟩, 12), (⟨"ObjectRules", "checkHidden", "(II)V"⟩, 12), (⟨"ObjectRules", "requireCallable", "(I)V"⟩, 12), (⟨"ObjectRules", "requireOneKind", "(LObjectRules$Descriptor;)V"⟩, 12)]
theorem lw_r3 : ∀ q ∈ lw_privs_3, lw_okq q := List.forall_mem_cons.mpr ⟨lw_p32, List.forall_mem_cons.mpr ⟨lw_p33, List.forall_mem_cons.mpr ⟨lw_p34, List.forall_mem_cons.mpr ⟨lw_p35, List.forall_mem_cons.mpr ⟨lw_p36, List.forall_mem_cons.mpr ⟨lw_p37, List.forall_mem_cons.mpr ⟨lw_p38, List.forall_mem_cons.mpr ⟨lw_p39, List.forall_mem_cons.mpr ⟨lw_p40, List.forall_mem_cons.mpr ⟨lw_p41, List.forall_mem_cons.mpr ⟨lw_p42, List.forall_mem_cons.mpr ⟨lw_p43, List.forall_mem_cons.mpr ⟨lw_p44, List.forall_mem_cons.mpr ⟨lw_p45, List.forall_mem_cons.mpr ⟨lw_p46, List.forall_mem_cons.mpr ⟨lw_p47, fun _ h => absurd h List.not_mem_nil⟩⟩⟩⟩⟩⟩⟩⟩⟩⟩⟩⟩⟩⟩⟩⟩
theorem lw_p48 : lw_okq (⟨"ObjectRules$Descriptor", "fitsAccessor", "(LObjectRules$Descriptor;)Z"⟩, 5) := ⟨⟨by decide +kernel, by decide +kernel⟩, List.mem_of_getElem? (i := 89) (by decide +kernel), List.mem_of_getElem? (i := 728) (by decide +kernel), List.mem_of_getElem? (i := 729) (by decide +kernel)⟩
theorem lw_p49 : lw_okq (⟨"ObjectRules$Descriptor", "fitsData", "(LObjectRules$Descriptor;)Z"⟩, 5) := ⟨⟨by decide +kernel, by decide +kernel⟩, List.mem_of_getElem? (i := 89) (by decide +kernel), List.mem_of_getElem? (i := 733) (by decide +kernel), List.mem_of_getElem? (i := 734) (by decide +kernel)⟩
theorem lw_p50 : lw_okq (⟨"ObjectRules", "checkFixed", "(ZLObjectRules$Descriptor;LObjectRules$Descriptor;)V"⟩, 12) := ⟨⟨by decide +kernel, by decide +kernel⟩, List.mem_of_getElem? (i := 23) (by decide +kernel), List.mem_of_getElem? (i := 738) (by decide +kernel), List.mem_of_getElem? (i := 739) (by decide +kernel)⟩
theorem lw_p51 : lw_okq (⟨"ObjectRules", "defineOn", "(IILObjectRules$Descriptor;)Z"⟩, 12) := ⟨⟨by decide +kernel, by decide +kernel⟩, List.mem_of_getElem? (i := 23) (by decide +kernel), List.mem_of_getElem? (i := 760) (by decide +kernel), List.mem_of_getElem? (i := 761) (by decide +kernel)⟩
theorem lw_p52 : lw_okq (⟨"ObjectRules", "proxyDefine", "(IILObjectRules$Descriptor;)Z"⟩, 12) := ⟨⟨by decide +kernel, by decide +kernel⟩, List.mem_of_getElem? (i := 23) (by decide +kernel), List.mem_of_getElem? (i := 764) (by decide +kernel), List.mem_of_getElem? (i := 765) (by decide +kernel)⟩
theorem lw_p53 : lw_okq (⟨"ObjectRules", "objectFrom", "(LObjectRules$Descriptor;)I"⟩, 12) := ⟨⟨by decide +kernel, by decide +kernel⟩, List.mem_of_getElem? (i := 23) (by decide +kernel), List.mem_of_getElem? (i := 768) (by decide +kernel), List.mem_of_getElem? (i := 769) (by decide +kernel)⟩
theorem lw_p54 : lw_okq (⟨"ObjectRules", "putData", "(III)V"⟩, 12) := ⟨⟨by decide +kernel, by decide +kernel⟩, List.mem_of_getElem? (i := 23) (by decide +kernel), List.mem_of_getElem? (i := 773) (by decide +kernel), List.mem_of_getElem? (i := 774) (by decide +kernel)⟩
theorem lw_p55 : lw_okq (⟨"ObjectRules", "checkDefined", "(IILObjectRules$Descriptor;)V"⟩, 12) := ⟨⟨by decide +kernel, by decide +kernel⟩, List.mem_of_getElem? (i := 23) (by decide +kernel), List.mem_of_getElem? (i := 784) (by decide +kernel), List.mem_of_getElem? (i := 785) (by decide +kernel)⟩
theorem lw_p56 : lw_okq (⟨"ObjectRules", "defineLength", "(ILObjectRules$Descriptor;)Z"⟩, 12) := ⟨⟨by decide +kernel, by decide +kernel⟩, List.mem_of_getElem? (i := 23) (by decide +kernel), List.mem_of_getElem? (i := 795) (by decide +kernel), List.mem_of_getElem? (i := 796) (by decide +kernel)⟩
theorem lw_p57 : lw_okq (⟨"ObjectRules", "ordinaryDefine", "(IILObjectRules$Descriptor;)Z"⟩, 12) := ⟨⟨by decide +kernel, by decide +kernel⟩, List.mem_of_getElem? (i := 23) (by decide +kernel), List.mem_of_getElem? (i := 799) (by decide +kernel), List.mem_of_getElem? (i := 800) (by decide +kernel)⟩
theorem lw_p58 : lw_okq (⟨"ObjectRules", "isNumeric", "(I)Z"⟩, 12) := ⟨⟨by decide +kernel, by decide +kernel⟩, List.mem_of_getElem? (i := 23) (by decide +kernel), List.mem_of_getElem? (i := 811) (by decide +kernel), List.mem_of_getElem? (i := 812) (by decide +kernel)⟩
theorem lw_p59 : lw_okq (⟨"ObjectRules$Store", "flagsAt", "(I)I"⟩, 14) := ⟨⟨by decide +kernel, by decide +kernel⟩, List.mem_of_getElem? (i := 31) (by decide +kernel), List.mem_of_getElem? (i := 851) (by decide +kernel), List.mem_of_getElem? (i := 852) (by decide +kernel)⟩
theorem lw_p60 : lw_okq (⟨"ObjectRules", "defineElement", "(IILObjectRules$Descriptor;)Z"⟩, 12) := ⟨⟨by decide +kernel, by decide +kernel⟩, List.mem_of_getElem? (i := 23) (by decide +kernel), List.mem_of_getElem? (i := 860) (by decide +kernel), List.mem_of_getElem? (i := 861) (by decide +kernel)⟩
theorem lw_p61 : lw_okq (⟨"ObjectRules", "proxySet", "(IIII)Z"⟩, 12) := ⟨⟨by decide +kernel, by decide +kernel⟩, List.mem_of_getElem? (i := 23) (by decide +kernel), List.mem_of_getElem? (i := 872) (by decide +kernel), List.mem_of_getElem? (i := 873) (by decide +kernel)⟩
theorem lw_p62 : lw_okq (⟨"ObjectRules", "checkSet", "(III)V"⟩, 12) := ⟨⟨by decide +kernel, by decide +kernel⟩, List.mem_of_getElem? (i := 23) (by decide +kernel), List.mem_of_getElem? (i := 876) (by decide +kernel), List.mem_of_getElem? (i := 877) (by decide +kernel)⟩
theorem lw_p63 : lw_okq (⟨"ObjectRules", "reflect", "(IIIII)I"⟩, 12) := ⟨⟨by decide +kernel, by decide +kernel⟩, List.mem_of_getElem? (i := 23) (by decide +kernel), List.mem_of_getElem? (i := 911) (by decide +kernel), List.mem_of_getElem? (i := 912) (by decide +kernel)⟩
def lw_privs_4 : List (MethodName × Nat) := [(⟨"ObjectRules$Descriptor", "fitsAccessor", "(LObjectRules$Descriptor;)Z"⟩, 5), (⟨"ObjectRules$Descriptor", "fitsData", "(LObjectRules$Descriptor;)Z"⟩, 5), (⟨"ObjectRules", "checkFixed", "(ZLObjectRules$Descriptor;LObjectRules$Descriptor;)V"⟩, 12), (⟨"ObjectRules", "defineOn", "(IILObjectRules$Descriptor;)Z"⟩, 12), (⟨"ObjectRules", "proxyDefine", "(IILObjectRules$Descriptor;)Z"⟩, 12), (⟨"ObjectRules", "objectFrom", "(LObjectRules$Descriptor;)I"⟩, 12), (⟨"ObjectRules", "putData", "(III)V"⟩, 12), (⟨"ObjectRules", "checkDefined", "(IILObjectRules$Descriptor;)V"⟩, 12), (⟨"ObjectRules", "defineLength", "(ILObjectRules$Descriptor;)Z"⟩, 12), (⟨"ObjectRules", "ordinaryDefine", "(IILObjectRules$Descriptor;)Z"⟩, 12), (⟨"ObjectRules", "isNumeric", "(I)Z"⟩, 12), (⟨"ObjectRules$Store", "flagsAt", "(I)I"⟩, 14), (⟨"ObjectRules", "defineElement", "(IILObjectRules$Descriptor;)Z"⟩, 12), (⟨"ObjectRules", "proxySet", "(IIII)Z"⟩, 12), (⟨"ObjectRules", "checkSet", "(III)V"⟩, 12), (⟨"ObjectRules", "reflect", "(IIIII)I"⟩, 12)]
theorem lw_r4 : ∀ q ∈ lw_privs_4, lw_okq q := List.forall_mem_cons.mpr ⟨lw_p48, List.forall_mem_cons.mpr ⟨lw_p49, List.forall_mem_cons.mpr ⟨lw_p50, List.forall_mem_cons.mpr ⟨lw_p51, List.forall_mem_cons.mpr ⟨lw_p52, List.forall_mem_cons.mpr ⟨lw_p53, List.forall_mem_cons.mpr ⟨lw_p54, List.forall_mem_cons.mpr ⟨lw_p55, List.forall_mem_cons.mpr ⟨lw_p56, List.forall_mem_cons.mpr ⟨lw_p57, List.forall_mem_cons.mpr ⟨lw_p58, List.forall_mem_cons.mpr ⟨lw_p59, List.forall_mem_cons.mpr ⟨lw_p60, List.forall_mem_cons.mpr ⟨lw_p61, List.forall_mem_cons.mpr ⟨lw_p62, List.forall_mem_cons.mpr ⟨lw_p63, fun _ h => absurd h List.not_mem_nil⟩⟩⟩⟩⟩⟩⟩⟩⟩⟩⟩⟩⟩⟩⟩⟩
theorem lw_p64 : lw_okq (⟨"ObjectRules", "deleteFrom", "(II)Z"⟩, 12) := ⟨⟨by decide +kernel, by decide +kernel⟩, List.mem_of_getElem? (i := 23) (by decide +kernel), List.mem_of_getElem? (i := 915) (by decide +kernel), List.mem_of_getElem? (i := 916) (by decide +kernel)⟩
theorem lw_p65 : lw_okq (⟨"ObjectRules", "proxyDelete", "(II)Z"⟩, 12) := ⟨⟨by decide +kernel, by decide +kernel⟩, List.mem_of_getElem? (i := 23) (by decide +kernel), List.mem_of_getElem? (i := 919) (by decide +kernel), List.mem_of_getElem? (i := 920) (by decide +kernel)⟩
theorem lw_p66 : lw_okq (⟨"ObjectRules", "reflectDefine", "(III)Z"⟩, 12) := ⟨⟨by decide +kernel, by decide +kernel⟩, List.mem_of_getElem? (i := 23) (by decide +kernel), List.mem_of_getElem? (i := 925) (by decide +kernel), List.mem_of_getElem? (i := 926) (by decide +kernel)⟩
theorem lw_p67 : lw_okq (⟨"ObjectRules", "reflectOwn", "(II)I"⟩, 12) := ⟨⟨by decide +kernel, by decide +kernel⟩, List.mem_of_getElem? (i := 23) (by decide +kernel), List.mem_of_getElem? (i := 933) (by decide +kernel), List.mem_of_getElem? (i := 934) (by decide +kernel)⟩
theorem lw_p68 : lw_okq (⟨"ObjectRules", "reflectKeys", "(I)I"⟩, 12) := ⟨⟨by decide +kernel, by decide +kernel⟩, List.mem_of_getElem? (i := 23) (by decide +kernel), List.mem_of_getElem? (i := 937) (by decide +kernel), List.mem_of_getElem? (i := 938) (by decide +kernel)⟩
theorem lw_p69 : lw_okq (⟨"ObjectRules", "keysOf", "(I)I"⟩, 12) := ⟨⟨by decide +kernel, by decide +kernel⟩, List.mem_of_getElem? (i := 23) (by decide +kernel), List.mem_of_getElem? (i := 945) (by decide +kernel), List.mem_of_getElem? (i := 946) (by decide +kernel)⟩
theorem lw_p70 : lw_okq (⟨"ObjectRules", "proxyKeys", "(I)I"⟩, 12) := ⟨⟨by decide +kernel, by decide +kernel⟩, List.mem_of_getElem? (i := 23) (by decide +kernel), List.mem_of_getElem? (i := 949) (by decide +kernel), List.mem_of_getElem? (i := 950) (by decide +kernel)⟩
theorem lw_p71 : lw_okq (⟨"ObjectRules", "pushListed", "(I)I"⟩, 12) := ⟨⟨by decide +kernel, by decide +kernel⟩, List.mem_of_getElem? (i := 23) (by decide +kernel), List.mem_of_getElem? (i := 953) (by decide +kernel), List.mem_of_getElem? (i := 954) (by decide +kernel)⟩
theorem lw_p72 : lw_okq (⟨"ObjectRules", "toLength", "(I)I"⟩, 12) := ⟨⟨by decide +kernel, by decide +kernel⟩, List.mem_of_getElem? (i := 23) (by decide +kernel), List.mem_of_getElem? (i := 958) (by decide +kernel), List.mem_of_getElem? (i := 959) (by decide +kernel)⟩
theorem lw_p73 : lw_okq (⟨"ObjectRules", "checkKeys", "(III)V"⟩, 12) := ⟨⟨by decide +kernel, by decide +kernel⟩, List.mem_of_getElem? (i := 23) (by decide +kernel), List.mem_of_getElem? (i := 979) (by decide +kernel), List.mem_of_getElem? (i := 980) (by decide +kernel)⟩
theorem lw_p74 : lw_okq (⟨"ObjectRules", "arrayFrom", "(II)I"⟩, 12) := ⟨⟨by decide +kernel, by decide +kernel⟩, List.mem_of_getElem? (i := 23) (by decide +kernel), List.mem_of_getElem? (i := 995) (by decide +kernel), List.mem_of_getElem? (i := 996) (by decide +kernel)⟩
theorem lw_p75 : lw_okq (⟨"ObjectRules", "prototypeOf", "(I)I"⟩, 12) := ⟨⟨by decide +kernel, by decide +kernel⟩, List.mem_of_getElem? (i := 23) (by decide +kernel), List.mem_of_getElem? (i := 1000) (by decide +kernel), List.mem_of_getElem? (i := 1001) (by decide +kernel)⟩
theorem lw_p76 : lw_okq (⟨"ObjectRules", "proxyPrototype", "(I)I"⟩, 12) := ⟨⟨by decide +kernel, by decide +kernel⟩, List.mem_of_getElem? (i := 23) (by decide +kernel), List.mem_of_getElem? (i := 1004) (by decide +kernel), List.mem_of_getElem? (i := 1005) (by decide +kernel)⟩
theorem lw_p77 : lw_okq (⟨"ObjectRules", "checkPrototype", "(II)V"⟩, 12) := ⟨⟨by decide +kernel, by decide +kernel⟩, List.mem_of_getElem? (i := 23) (by decide +kernel), List.mem_of_getElem? (i := 1008) (by decide +kernel), List.mem_of_getElem? (i := 1009) (by decide +kernel)⟩
theorem lw_p78 : lw_okq (⟨"ObjectRules", "requireSamePrototype", "(II)V"⟩, 12) := ⟨⟨by decide +kernel, by decide +kernel⟩, List.mem_of_getElem? (i := 23) (by decide +kernel), List.mem_of_getElem? (i := 1013) (by decide +kernel), List.mem_of_getElem? (i := 1014) (by decide +kernel)⟩
theorem lw_p79 : lw_okq (⟨"ObjectRules", "changePrototype", "(II)Z"⟩, 12) := ⟨⟨by decide +kernel, by decide +kernel⟩, List.mem_of_getElem? (i := 23) (by decide +kernel), List.mem_of_getElem? (i := 1019) (by decide +kernel), List.mem_of_getElem? (i := 1020) (by decide +kernel)⟩
def lw_privs_5 : List (MethodName × Nat) := [(⟨"ObjectRules", "deleteFrom", "(II)Z"⟩, 12), (⟨"ObjectRules", "proxyDelete", "(II)Z"⟩, 12), (⟨"ObjectRules", "reflectDefine", "(III)Z"⟩, 12), (⟨"ObjectRules", "reflectOwn", "(II)I"⟩, 12), (⟨"ObjectRules", "reflectKeys", "(I)I"⟩, 12), (⟨"ObjectRules", "keysOf", "(I)I"⟩, 12), (⟨"ObjectRules", "proxyKeys", "(I)I"⟩, 12), (⟨"ObjectRules", "pushListed", "(I)I"⟩, 12), (⟨"ObjectRules", "toLength", "(I)I"⟩, 12), (⟨"ObjectRules", "checkKeys", "(III)V"⟩, 12), (⟨"ObjectRules", "arrayFrom", "(II)I"⟩, 12), (⟨"ObjectRules", "prototypeOf", "(I)I"⟩, 12), (⟨"ObjectRules", "proxyPrototype", "(I)I"⟩, 12), (⟨"ObjectRules", "checkPrototype", "(II)V"⟩, 12), (⟨"ObjectRules", "requireSamePrototype", "(II)V"⟩, 12), (⟨"ObjectRules", "changePrototype", "(II)Z"⟩, 12)]
theorem lw_r5 : ∀ q ∈ lw_privs_5, lw_okq q := List.forall_mem_cons.mpr ⟨lw_p64, List.forall_mem_cons.mpr ⟨lw_p65, List.forall_mem_cons.mpr ⟨lw_p66, List.forall_mem_cons.mpr ⟨lw_p67, List.forall_mem_cons.mpr ⟨lw_p68, List.forall_mem_cons.mpr ⟨lw_p69, List.forall_mem_cons.mpr ⟨lw_p70, List.forall_mem_cons.mpr ⟨lw_p71, List.forall_mem_cons.mpr ⟨lw_p72, List.forall_mem_cons.mpr ⟨lw_p73, List.forall_mem_cons.mpr ⟨lw_p74, List.forall_mem_cons.mpr ⟨lw_p75, List.forall_mem_cons.mpr ⟨lw_p76, List.forall_mem_cons.mpr ⟨lw_p77, List.forall_mem_cons.mpr ⟨lw_p78, List.forall_mem_cons.mpr ⟨lw_p79, fun _ h => absurd h List.not_mem_nil⟩⟩⟩⟩⟩⟩⟩⟩⟩⟩⟩⟩⟩⟩⟩⟩
theorem lw_p80 : lw_okq (⟨"ObjectRules", "proxyChangePrototype", "(II)Z"⟩, 12) := ⟨⟨by decide +kernel, by decide +kernel⟩, List.mem_of_getElem? (i := 23) (by decide +kernel), List.mem_of_getElem? (i := 1023) (by decide +kernel), List.mem_of_getElem? (i := 1024) (by decide +kernel)⟩
theorem lw_p81 : lw_okq (⟨"ObjectRules", "preventExtensions", "(I)Z"⟩, 12) := ⟨⟨by decide +kernel, by decide +kernel⟩, List.mem_of_getElem? (i := 23) (by decide +kernel), List.mem_of_getElem? (i := 1035) (by decide +kernel), List.mem_of_getElem? (i := 1036) (by decide +kernel)⟩
theorem lw_p82 : lw_okq (⟨"ObjectRules", "proxyPreventExtensions", "(I)Z"⟩, 12) := ⟨⟨by decide +kernel, by decide +kernel⟩, List.mem_of_getElem? (i := 23) (by decide +kernel), List.mem_of_getElem? (i := 1039) (by decide +kernel), List.mem_of_getElem? (i := 1040) (by decide +kernel)⟩
theorem lw_p83 : lw_okq (⟨"ObjectRules", "checkGot", "(III)V"⟩, 12) := ⟨⟨by decide +kernel, by decide +kernel⟩, List.mem_of_getElem? (i := 23) (by decide +kernel), List.mem_of_getElem? (i := 1048) (by decide +kernel), List.mem_of_getElem? (i := 1049) (by decide +kernel)⟩
theorem lw_p84 : lw_okq (⟨"ObjectRules", "testLevel", "(IZ)Z"⟩, 12) := ⟨⟨by decide +kernel, by decide +kernel⟩, List.mem_of_getElem? (i := 23) (by decide +kernel), List.mem_of_getElem? (i := 1169) (by decide +kernel), List.mem_of_getElem? (i := 1170) (by decide +kernel)⟩
theorem lw_p85 : lw_okq (⟨"ObjectRules", "setLevel", "(IZ)Z"⟩, 12) := ⟨⟨by decide +kernel, by decide +kernel⟩, List.mem_of_getElem? (i := 23) (by decide +kernel), List.mem_of_getElem? (i := 1173) (by decide +kernel), List.mem_of_getElem? (i := 1174) (by decide +kernel)⟩
theorem lw_p86 : lw_okq (⟨"ObjectRules", "assignAll", "(II)I"⟩, 12) := ⟨⟨by decide +kernel, by decide +kernel⟩, List.mem_of_getElem? (i := 23) (by decide +kernel), List.mem_of_getElem? (i := 1185) (by decide +kernel), List.mem_of_getElem? (i := 1186) (by decide +kernel)⟩
theorem lw_p87 : lw_okq (⟨"ObjectRulesModel", "begin", "()V"⟩, 32) := ⟨⟨by decide +kernel, by decide +kernel⟩, List.mem_of_getElem? (i := 1201) (by decide +kernel), List.mem_of_getElem? (i := 1316) (by decide +kernel), List.mem_of_getElem? (i := 1317) (by decide +kernel)⟩
theorem lw_p88 : lw_okq (⟨"ObjectRulesModel", "isThere", "(I)Z"⟩, 32) := ⟨⟨by decide +kernel, by decide +kernel⟩, List.mem_of_getElem? (i := 1201) (by decide +kernel), List.mem_of_getElem? (i := 1320) (by decide +kernel), List.mem_of_getElem? (i := 1321) (by decide +kernel)⟩
theorem lw_p89 : lw_okq (⟨"ObjectRulesModel", "fails", "(I)I"⟩, 32) := ⟨⟨by decide +kernel, by decide +kernel⟩, List.mem_of_getElem? (i := 1201) (by decide +kernel), List.mem_of_getElem? (i := 1330) (by decide +kernel), List.mem_of_getElem? (i := 1331) (by decide +kernel)⟩
theorem lw_p90 : lw_okq (⟨"ObjectRulesModel", "newObject", "(II)I"⟩, 32) := ⟨⟨by decide +kernel, by decide +kernel⟩, List.mem_of_getElem? (i := 1201) (by decide +kernel), List.mem_of_getElem? (i := 1334) (by decide +kernel), List.mem_of_getElem? (i := 1335) (by decide +kernel)⟩
theorem lw_p91 : lw_okq (⟨"ObjectRulesModel", "newArray", "(I)I"⟩, 32) := ⟨⟨by decide +kernel, by decide +kernel⟩, List.mem_of_getElem? (i := 1201) (by decide +kernel), List.mem_of_getElem? (i := 1372) (by decide +kernel), List.mem_of_getElem? (i := 1373) (by decide +kernel)⟩
theorem lw_p92 : lw_okq (⟨"ObjectRulesModel", "newProperty", "(II)I"⟩, 32) := ⟨⟨by decide +kernel, by decide +kernel⟩, List.mem_of_getElem? (i := 1201) (by decide +kernel), List.mem_of_getElem? (i := 1376) (by decide +kernel), List.mem_of_getElem? (i := 1377) (by decide +kernel)⟩
theorem lw_p93 : lw_okq (⟨"ObjectRulesModel", "isValue", "(I)Z"⟩, 32) := ⟨⟨by decide +kernel, by decide +kernel⟩, List.mem_of_getElem? (i := 1201) (by decide +kernel), List.mem_of_getElem? (i := 1387) (by decide +kernel), List.mem_of_getElem? (i := 1388) (by decide +kernel)⟩
theorem lw_p94 : lw_okq (⟨"ObjectRulesModel", "objectOf", "(I)I"⟩, 32) := ⟨⟨by decide +kernel, by decide +kernel⟩, List.mem_of_getElem? (i := 1201) (by decide +kernel), List.mem_of_getElem? (i := 1403) (by decide +kernel), List.mem_of_getElem? (i := 1404) (by decide +kernel)⟩
theorem lw_p95 : lw_okq (⟨"ObjectRulesModel", "illegal", "(Z)V"⟩, 32) := ⟨⟨by decide +kernel, by decide +kernel⟩, List.mem_of_getElem? (i := 1201) (by decide +kernel), List.mem_of_getElem? (i := 1407) (by decide +kernel), List.mem_of_getElem? (i := 1408) (by decide +kernel)⟩
def lw_privs_6 : List (MethodName × Nat) := [(⟨"ObjectRules", "proxyChangePrototype", "(II)Z"⟩, 12), (⟨"ObjectRules", "preventExtensions", "(I)Z"⟩, 12), (⟨"ObjectRules", "proxyPreventExtensions", "(I)Z"⟩, 12), (⟨"ObjectRules", "checkGot", "(III)V"⟩, 12), (⟨"ObjectRules", "testLevel", "(IZ)Z"⟩, 12), (⟨"ObjectRules", "setLevel", "(IZ)Z"⟩, 12), (⟨"ObjectRules", "assignAll", "(II)I"⟩, 12), (⟨"ObjectRulesModel", "begin", "()V"⟩, 32), (⟨"ObjectRulesModel", "isThere", "(I)Z"⟩, 32), (⟨"ObjectRulesModel", "fails", "(I)I"⟩, 32), (⟨"ObjectRulesModel", "newObject", "(II)I"⟩, 32), (⟨"ObjectRulesModel", "newArray", "(I)I"⟩, 32), (⟨"ObjectRulesModel", "newProperty", "(II)I"⟩, 32), (⟨"ObjectRulesModel", "isValue", "(I)Z"⟩, 32), (⟨"ObjectRulesModel", "objectOf", "(I)I"⟩, 32), (⟨"ObjectRulesModel", "illegal", "(Z)V"⟩, 32)]
theorem lw_r6 : ∀ q ∈ lw_privs_6, lw_okq q := List.forall_mem_cons.mpr ⟨lw_p80, List.forall_mem_cons.mpr ⟨lw_p81, List.forall_mem_cons.mpr ⟨lw_p82, List.forall_mem_cons.mpr ⟨lw_p83, List.forall_mem_cons.mpr ⟨lw_p84, List.forall_mem_cons.mpr ⟨lw_p85, List.forall_mem_cons.mpr ⟨lw_p86, List.forall_mem_cons.mpr ⟨lw_p87, List.forall_mem_cons.mpr ⟨lw_p88, List.forall_mem_cons.mpr ⟨lw_p89, List.forall_mem_cons.mpr ⟨lw_p90, List.forall_mem_cons.mpr ⟨lw_p91, List.forall_mem_cons.mpr ⟨lw_p92, List.forall_mem_cons.mpr ⟨lw_p93, List.forall_mem_cons.mpr ⟨lw_p94, List.forall_mem_cons.mpr ⟨lw_p95, fun _ h => absurd h List.not_mem_nil⟩⟩⟩⟩⟩⟩⟩⟩⟩⟩⟩⟩⟩⟩⟩⟩
theorem lw_p96 : lw_okq (⟨"ObjectRulesModel", "get", "(III)I"⟩, 32) := ⟨⟨by decide +kernel, by decide +kernel⟩, List.mem_of_getElem? (i := 1201) (by decide +kernel), List.mem_of_getElem? (i := 1411) (by decide +kernel), List.mem_of_getElem? (i := 1412) (by decide +kernel)⟩
theorem lw_p97 : lw_okq (⟨"ObjectRulesModel", "property", "(II)I"⟩, 32) := ⟨⟨by decide +kernel, by decide +kernel⟩, List.mem_of_getElem? (i := 1201) (by decide +kernel), List.mem_of_getElem? (i := 1415) (by decide +kernel), List.mem_of_getElem? (i := 1416) (by decide +kernel)⟩
theorem lw_p98 : lw_okq (⟨"ObjectRulesModel", "run", "(IIIIIII)I"⟩, 32) := ⟨⟨by decide +kernel, by decide +kernel⟩, List.mem_of_getElem? (i := 1201) (by decide +kernel), List.mem_of_getElem? (i := 1419) (by decide +kernel), List.mem_of_getElem? (i := 1420) (by decide +kernel)⟩
theorem lw_p99 : lw_okq (⟨"ObjectRulesModel", "enter", "()V"⟩, 32) := ⟨⟨by decide +kernel, by decide +kernel⟩, List.mem_of_getElem? (i := 1201) (by decide +kernel), List.mem_of_getElem? (i := 1423) (by decide +kernel), List.mem_of_getElem? (i := 1424) (by decide +kernel)⟩
theorem lw_p100 : lw_okq (⟨"ObjectRulesModel", "acted", "(IIIIIII)I"⟩, 32) := ⟨⟨by decide +kernel, by decide +kernel⟩, List.mem_of_getElem? (i := 1201) (by decide +kernel), List.mem_of_getElem? (i := 1427) (by decide +kernel), List.mem_of_getElem? (i := 1428) (by decide +kernel)⟩
theorem lw_p101 : lw_okq (⟨"ObjectRulesModel", "set", "(IIII)Z"⟩, 32) := ⟨⟨by decide +kernel, by decide +kernel⟩, List.mem_of_getElem? (i := 1201) (by decide +kernel), List.mem_of_getElem? (i := 1431) (by decide +kernel), List.mem_of_getElem? (i := 1432) (by decide +kernel)⟩
theorem lw_p102 : lw_okq (⟨"ObjectRulesModel", "ordinarySet", "(IIII)Z"⟩, 32) := ⟨⟨by decide +kernel, by decide +kernel⟩, List.mem_of_getElem? (i := 1201) (by decide +kernel), List.mem_of_getElem? (i := 1435) (by decide +kernel), List.mem_of_getElem? (i := 1436) (by decide +kernel)⟩
theorem lw_p103 : lw_okq (⟨"ObjectRulesModel", "own", "(II)LObjectRulesModel$Desc;"⟩, 32) := ⟨⟨by decide +kernel, by decide +kernel⟩, List.mem_of_getElem? (i := 1201) (by decide +kernel), List.mem_of_getElem? (i := 1439) (by decide +kernel), List.mem_of_getElem? (i := 1440) (by decide +kernel)⟩
theorem lw_p104 : lw_okq (⟨"ObjectRulesModel", "ordinaryOwn", "(II)LObjectRulesModel$Desc;"⟩, 32) := ⟨⟨by decide +kernel, by decide +kernel⟩, List.mem_of_getElem? (i := 1201) (by decide +kernel), List.mem_of_getElem? (i := 1443) (by decide +kernel), List.mem_of_getElem? (i := 1444) (by decide +kernel)⟩
theorem lw_p105 : lw_okq (⟨"ObjectRulesModel", "descOf", "(I)LObjectRulesModel$Desc;"⟩, 32) := ⟨⟨by decide +kernel, by decide +kernel⟩, List.mem_of_getElem? (i := 1201) (by decide +kernel), List.mem_of_getElem? (i := 1447) (by decide +kernel), List.mem_of_getElem? (i := 1448) (by decide +kernel)⟩
theorem lw_p106 : lw_okq (⟨"ObjectRulesModel", "desc", "()LObjectRulesModel$Desc;"⟩, 32) := ⟨⟨by decide +kernel, by decide +kernel⟩, List.mem_of_getElem? (i := 1201) (by decide +kernel), List.mem_of_getElem? (i := 1451) (by decide +kernel), List.mem_of_getElem? (i := 1452) (by decide +kernel)⟩
theorem lw_p107 : lw_okq (⟨"ObjectRulesModel", "enterProxy", "(I)V"⟩, 32) := ⟨⟨by decide +kernel, by decide +kernel⟩, List.mem_of_getElem? (i := 1201) (by decide +kernel), List.mem_of_getElem? (i := 1513) (by decide +kernel), List.mem_of_getElem? (i := 1514) (by decide +kernel)⟩
theorem lw_p108 : lw_okq (⟨"ObjectRulesModel", "trapOf", "(II)I"⟩, 32) := ⟨⟨by decide +kernel, by decide +kernel⟩, List.mem_of_getElem? (i := 1201) (by decide +kernel), List.mem_of_getElem? (i := 1517) (by decide +kernel), List.mem_of_getElem? (i := 1518) (by decide +kernel)⟩
theorem lw_p109 : lw_okq (⟨"ObjectRulesModel", "isCallable", "(I)Z"⟩, 32) := ⟨⟨by decide +kernel, by decide +kernel⟩, List.mem_of_getElem? (i := 1201) (by decide +kernel), List.mem_of_getElem? (i := 1521) (by decide +kernel), List.mem_of_getElem? (i := 1522) (by decide +kernel)⟩
theorem lw_p110 : lw_okq (⟨"ObjectRulesModel", "trappedOwn", "(IIII)LObjectRulesModel$Desc;"⟩, 32) := ⟨⟨by decide +kernel, by decide +kernel⟩, List.mem_of_getElem? (i := 1201) (by decide +kernel), List.mem_of_getElem? (i := 1525) (by decide +kernel), List.mem_of_getElem? (i := 1526) (by decide +kernel)⟩
theorem lw_p111 : lw_okq (⟨"ObjectRulesModel", "isOpen", "(I)Z"⟩, 32) := ⟨⟨by decide +kernel, by decide +kernel⟩, List.mem_of_getElem? (i := 1201) (by decide +kernel), List.mem_of_getElem? (i := 1532) (by decide +kernel), List.mem_of_getElem? (i := 1533) (by decide +kernel)⟩
def lw_privs_7 : List (MethodName × Nat) := [(⟨"ObjectRulesModel", "get", "(III)I"⟩, 32), (⟨"ObjectRulesModel", "property", "(II)I"⟩, 32), (⟨"ObjectRulesModel", "run", "(IIIIIII)I"⟩, 32), (⟨"ObjectRulesModel", "enter", "()V"⟩, 32), (⟨"ObjectRulesModel", "acted", "(IIIIIII)I"⟩, 32), (⟨"ObjectRulesModel", "set", "(IIII)Z"⟩, 32), (⟨"ObjectRulesModel", "ordinarySet", "(IIII)Z"⟩, 32), (⟨"ObjectRulesModel", "own", "(II)LObjectRulesModel$Desc;"⟩, 32), (⟨"ObjectRulesModel", "ordinaryOwn", "(II)LObjectRulesModel$Desc;"⟩, 32), (⟨"ObjectRulesModel", "descOf", "(I)LObjectRulesModel$Desc;"⟩, 32), (⟨"ObjectRulesModel", "desc", "()LObjectRulesModel$Desc;"⟩, 32), (⟨"ObjectRulesModel", "enterProxy", "(I)V"⟩, 32), (⟨"ObjectRulesModel", "trapOf", "(II)I"⟩, 32), (⟨"ObjectRulesModel", "isCallable", "(I)Z"⟩, 32), (⟨"ObjectRulesModel", "trappedOwn", "(IIII)LObjectRulesModel$Desc;"⟩, 32), (⟨"ObjectRulesModel", "isOpen", "(I)Z"⟩, 32)]
theorem lw_r7 : ∀ q ∈ lw_privs_7, lw_okq q := List.forall_mem_cons.mpr ⟨lw_p96, List.forall_mem_cons.mpr ⟨lw_p97, List.forall_mem_cons.mpr ⟨lw_p98, List.forall_mem_cons.mpr ⟨lw_p99, List.forall_mem_cons.mpr ⟨lw_p100, List.forall_mem_cons.mpr ⟨lw_p101, List.forall_mem_cons.mpr ⟨lw_p102, List.forall_mem_cons.mpr ⟨lw_p103, List.forall_mem_cons.mpr ⟨lw_p104, List.forall_mem_cons.mpr ⟨lw_p105, List.forall_mem_cons.mpr ⟨lw_p106, List.forall_mem_cons.mpr ⟨lw_p107, List.forall_mem_cons.mpr ⟨lw_p108, List.forall_mem_cons.mpr ⟨lw_p109, List.forall_mem_cons.mpr ⟨lw_p110, List.forall_mem_cons.mpr ⟨lw_p111, fun _ h => absurd h List.not_mem_nil⟩⟩⟩⟩⟩⟩⟩⟩⟩⟩⟩⟩⟩⟩⟩⟩
theorem lw_p112 : lw_okq (⟨"ObjectRulesModel", "leave", "()V"⟩, 32) := ⟨⟨by decide +kernel, by decide +kernel⟩, List.mem_of_getElem? (i := 1201) (by decide +kernel), List.mem_of_getElem? (i := 1539) (by decide +kernel), List.mem_of_getElem? (i := 1540) (by decide +kernel)⟩
theorem lw_p113 : lw_okq (⟨"ObjectRulesModel", "toDescriptor", "(I)LObjectRulesModel$Desc;"⟩, 32) := ⟨⟨by decide +kernel, by decide +kernel⟩, List.mem_of_getElem? (i := 1201) (by decide +kernel), List.mem_of_getElem? (i := 1543) (by decide +kernel), List.mem_of_getElem? (i := 1544) (by decide +kernel)⟩
theorem lw_p114 : lw_okq (⟨"ObjectRulesModel", "has", "(II)Z"⟩, 32) := ⟨⟨by decide +kernel, by decide +kernel⟩, List.mem_of_getElem? (i := 1201) (by decide +kernel), List.mem_of_getElem? (i := 1547) (by decide +kernel), List.mem_of_getElem? (i := 1548) (by decide +kernel)⟩
theorem lw_p115 : lw_okq (⟨"ObjectRulesModel", "apply", "(IIZLObjectRulesModel$Desc;LObjectRulesModel$Desc;)Z"⟩, 32) := ⟨⟨by decide +kernel, by decide +kernel⟩, List.mem_of_getElem? (i := 1201) (by decide +kernel), List.mem_of_getElem? (i := 1562) (by decide +kernel), List.mem_of_getElem? (i := 1563) (by decide +kernel)⟩
theorem lw_p116 : lw_okq (⟨"ObjectRulesModel", "keep", "(ILObjectRulesModel$Desc;)LObjectRulesModel$Desc;"⟩, 32) := ⟨⟨by decide +kernel, by decide +kernel⟩, List.mem_of_getElem? (i := 1201) (by decide +kernel), List.mem_of_getElem? (i := 1566) (by decide +kernel), List.mem_of_getElem? (i := 1567) (by decide +kernel)⟩
theorem lw_p117 : lw_okq (⟨"ObjectRulesModel", "createData", "(III)Z"⟩, 32) := ⟨⟨by decide +kernel, by decide +kernel⟩, List.mem_of_getElem? (i := 1201) (by decide +kernel), List.mem_of_getElem? (i := 1574) (by decide +kernel), List.mem_of_getElem? (i := 1575) (by decide +kernel)⟩
theorem lw_p118 : lw_okq (⟨"ObjectRulesModel", "define", "(IILObjectRulesModel$Desc;)Z"⟩, 32) := ⟨⟨by decide +kernel, by decide +kernel⟩, List.mem_of_getElem? (i := 1201) (by decide +kernel), List.mem_of_getElem? (i := 1578) (by decide +kernel), List.mem_of_getElem? (i := 1579) (by decide +kernel)⟩
theorem lw_p119 : lw_okq (⟨"ObjectRulesModel", "arrayDefine", "(IILObjectRulesModel$Desc;)Z"⟩, 32) := ⟨⟨by decide +kernel, by decide +kernel⟩, List.mem_of_getElem? (i := 1201) (by decide +kernel), List.mem_of_getElem? (i := 1582) (by decide +kernel), List.mem_of_getElem? (i := 1583) (by decide +kernel)⟩
theorem lw_p120 : lw_okq (⟨"ObjectRulesModel", "setLength", "(ILObjectRulesModel$Desc;)Z"⟩, 32) := ⟨⟨by decide +kernel, by decide +kernel⟩, List.mem_of_getElem? (i := 1201) (by decide +kernel), List.mem_of_getElem? (i := 1586) (by decide +kernel), List.mem_of_getElem? (i := 1587) (by decide +kernel)⟩
theorem lw_p121 : lw_okq (⟨"ObjectRulesModel", "ordinaryDefine", "(IILObjectRulesModel$Desc;)Z"⟩, 32) := ⟨⟨by decide +kernel, by decide +kernel⟩, List.mem_of_getElem? (i := 1201) (by decide +kernel), List.mem_of_getElem? (i := 1590) (by decide +kernel), List.mem_of_getElem? (i := 1591) (by decide +kernel)⟩
theorem lw_p122 : lw_okq (⟨"ObjectRulesModel", "setLength", "(ILObjectRulesModel$Desc;LObjectRulesModel$Desc;)Z"⟩, 32) := ⟨⟨by decide +kernel, by decide +kernel⟩, List.mem_of_getElem? (i := 1201) (by decide +kernel), List.mem_of_getElem? (i := 1594) (by decide +kernel), List.mem_of_getElem? (i := 1595) (by decide +kernel)⟩
theorem lw_p123 : lw_okq (⟨"ObjectRulesModel", "ordinaryDelete", "(II)Z"⟩, 32) := ⟨⟨by decide +kernel, by decide +kernel⟩, List.mem_of_getElem? (i := 1201) (by decide +kernel), List.mem_of_getElem? (i := 1601) (by decide +kernel), List.mem_of_getElem? (i := 1602) (by decide +kernel)⟩
theorem lw_p124 : lw_okq (⟨"ObjectRulesModel", "removeProperty", "(II)V"⟩, 32) := ⟨⟨by decide +kernel, by decide +kernel⟩, List.mem_of_getElem? (i := 1201) (by decide +kernel), List.mem_of_getElem? (i := 1605) (by decide +kernel), List.mem_of_getElem? (i := 1606) (by decide +kernel)⟩
theorem lw_p125 : lw_okq (⟨"ObjectRulesModel", "trappedDefine", "(IIIILObjectRulesModel$Desc;)Z"⟩, 32) := ⟨⟨by decide +kernel, by decide +kernel⟩, List.mem_of_getElem? (i := 1201) (by decide +kernel), List.mem_of_getElem? (i := 1609) (by decide +kernel), List.mem_of_getElem? (i := 1610) (by decide +kernel)⟩
theorem lw_p126 : lw_okq (⟨"ObjectRulesModel", "fromDescriptor", "(LObjectRulesModel$Desc;)I"⟩, 32) := ⟨⟨by decide +kernel, by decide +kernel⟩, List.mem_of_getElem? (i := 1201) (by decide +kernel), List.mem_of_getElem? (i := 1613) (by decide +kernel), List.mem_of_getElem? (i := 1614) (by decide +kernel)⟩
theorem lw_p127 : lw_okq (⟨"ObjectRulesModel", "created", "(III)V"⟩, 32) := ⟨⟨by decide +kernel, by decide +kernel⟩, List.mem_of_getElem? (i := 1201) (by decide +kernel), List.mem_of_getElem? (i := 1617) (by decide +kernel), List.mem_of_getElem? (i := 1618) (by decide +kernel)⟩
def lw_privs_8 : List (MethodName × Nat) := [(⟨"ObjectRulesModel", "leave", "()V"⟩, 32), (⟨"ObjectRulesModel", "toDescriptor", "(I)LObjectRulesModel$Desc;"⟩, 32), (⟨"ObjectRulesModel", "has", "(II)Z"⟩, 32), (⟨"ObjectRulesModel", "apply", "(IIZLObjectRulesModel$Desc;LObjectRulesModel$Desc;)Z"⟩, 32), (⟨"ObjectRulesModel", "keep", "(ILObjectRulesModel$Desc;)LObjectRulesModel$Desc;"⟩, 32), (⟨"ObjectRulesModel", "createData", "(III)Z"⟩, 32), (⟨"ObjectRulesModel", "define", "(IILObjectRulesModel$Desc;)Z"⟩, 32), (⟨"ObjectRulesModel", "arrayDefine", "(IILObjectRulesModel$Desc;)Z"⟩, 32), (⟨"ObjectRulesModel", "setLength", "(ILObjectRulesModel$Desc;)Z"⟩, 32), (⟨"ObjectRulesModel", "ordinaryDefine", "(IILObjectRulesModel$Desc;)Z"⟩, 32), (⟨"ObjectRulesModel", "setLength", "(ILObjectRulesModel$Desc;LObjectRulesModel$Desc;)Z"⟩, 32), (⟨"ObjectRulesModel", "ordinaryDelete", "(II)Z"⟩, 32), (⟨"ObjectRulesModel", "removeProperty", "(II)V"⟩, 32), (⟨"ObjectRulesModel", "trappedDefine", "(IIIILObjectRulesModel$Desc;)Z"⟩, 32), (⟨"ObjectRulesModel", "fromDescriptor", "(LObjectRulesModel$Desc;)I"⟩, 32), (⟨"ObjectRulesModel", "created", "(III)V"⟩, 32)]
theorem lw_r8 : ∀ q ∈ lw_privs_8, lw_okq q := List.forall_mem_cons.mpr ⟨lw_p112, List.forall_mem_cons.mpr ⟨lw_p113, List.forall_mem_cons.mpr ⟨lw_p114, List.forall_mem_cons.mpr ⟨lw_p115, List.forall_mem_cons.mpr ⟨lw_p116, List.forall_mem_cons.mpr ⟨lw_p117, List.forall_mem_cons.mpr ⟨lw_p118, List.forall_mem_cons.mpr ⟨lw_p119, List.forall_mem_cons.mpr ⟨lw_p120, List.forall_mem_cons.mpr ⟨lw_p121, List.forall_mem_cons.mpr ⟨lw_p122, List.forall_mem_cons.mpr ⟨lw_p123, List.forall_mem_cons.mpr ⟨lw_p124, List.forall_mem_cons.mpr ⟨lw_p125, List.forall_mem_cons.mpr ⟨lw_p126, List.forall_mem_cons.mpr ⟨lw_p127, fun _ h => absurd h List.not_mem_nil⟩⟩⟩⟩⟩⟩⟩⟩⟩⟩⟩⟩⟩⟩⟩⟩
theorem lw_p128 : lw_okq (⟨"ObjectRulesModel", "reflect", "(IIIII)I"⟩, 32) := ⟨⟨by decide +kernel, by decide +kernel⟩, List.mem_of_getElem? (i := 1201) (by decide +kernel), List.mem_of_getElem? (i := 1621) (by decide +kernel), List.mem_of_getElem? (i := 1622) (by decide +kernel)⟩
theorem lw_p129 : lw_okq (⟨"ObjectRulesModel", "delete", "(II)Z"⟩, 32) := ⟨⟨by decide +kernel, by decide +kernel⟩, List.mem_of_getElem? (i := 1201) (by decide +kernel), List.mem_of_getElem? (i := 1628) (by decide +kernel), List.mem_of_getElem? (i := 1629) (by decide +kernel)⟩
theorem lw_p130 : lw_okq (⟨"ObjectRulesModel", "keys", "(I)LObjectRulesModel$Keys;"⟩, 32) := ⟨⟨by decide +kernel, by decide +kernel⟩, List.mem_of_getElem? (i := 1201) (by decide +kernel), List.mem_of_getElem? (i := 1632) (by decide +kernel), List.mem_of_getElem? (i := 1633) (by decide +kernel)⟩
theorem lw_p131 : lw_okq (⟨"ObjectRulesModel", "ordinaryKeys", "(I)LObjectRulesModel$Keys;"⟩, 32) := ⟨⟨by decide +kernel, by decide +kernel⟩, List.mem_of_getElem? (i := 1201) (by decide +kernel), List.mem_of_getElem? (i := 1636) (by decide +kernel), List.mem_of_getElem? (i := 1637) (by decide +kernel)⟩
theorem lw_p132 : lw_okq (⟨"ObjectRulesModel", "list", "()LObjectRulesModel$Keys;"⟩, 32) := ⟨⟨by decide +kernel, by decide +kernel⟩, List.mem_of_getElem? (i := 1201) (by decide +kernel), List.mem_of_getElem? (i := 1640) (by decide +kernel), List.mem_of_getElem? (i := 1641) (by decide +kernel)⟩
theorem lw_p133 : lw_okq (⟨"ObjectRulesModel", "trappedKeys", "(III)LObjectRulesModel$Keys;"⟩, 32) := ⟨⟨by decide +kernel, by decide +kernel⟩, List.mem_of_getElem? (i := 1201) (by decide +kernel), List.mem_of_getElem? (i := 1662) (by decide +kernel), List.mem_of_getElem? (i := 1663) (by decide +kernel)⟩
theorem lw_p134 : lw_okq (⟨"ObjectRulesModel", "listOf", "(I)LObjectRulesModel$Keys;"⟩, 32) := ⟨⟨by decide +kernel, by decide +kernel⟩, List.mem_of_getElem? (i := 1201) (by decide +kernel), List.mem_of_getElem? (i := 1666) (by decide +kernel), List.mem_of_getElem? (i := 1667) (by decide +kernel)⟩
theorem lw_p135 : lw_okq (⟨"ObjectRulesModel", "keep", "(ILObjectRulesModel$Keys;)LObjectRulesModel$Keys;"⟩, 32) := ⟨⟨by decide +kernel, by decide +kernel⟩, List.mem_of_getElem? (i := 1201) (by decide +kernel), List.mem_of_getElem? (i := 1674) (by decide +kernel), List.mem_of_getElem? (i := 1675) (by decide +kernel)⟩
theorem lw_p136 : lw_okq (⟨"ObjectRulesModel", "fromKeys", "(LObjectRulesModel$Keys;)I"⟩, 32) := ⟨⟨by decide +kernel, by decide +kernel⟩, List.mem_of_getElem? (i := 1201) (by decide +kernel), List.mem_of_getElem? (i := 1682) (by decide +kernel), List.mem_of_getElem? (i := 1683) (by decide +kernel)⟩
theorem lw_p137 : lw_okq (⟨"ObjectRulesModel", "parentOf", "(I)I"⟩, 32) := ⟨⟨by decide +kernel, by decide +kernel⟩, List.mem_of_getElem? (i := 1201) (by decide +kernel), List.mem_of_getElem? (i := 1686) (by decide +kernel), List.mem_of_getElem? (i := 1687) (by decide +kernel)⟩
theorem lw_p138 : lw_okq (⟨"ObjectRulesModel", "setParentOf", "(II)Z"⟩, 32) := ⟨⟨by decide +kernel, by decide +kernel⟩, List.mem_of_getElem? (i := 1201) (by decide +kernel), List.mem_of_getElem? (i := 1690) (by decide +kernel), List.mem_of_getElem? (i := 1691) (by decide +kernel)⟩
theorem lw_p139 : lw_okq (⟨"ObjectRulesModel", "setOrdinaryParent", "(II)Z"⟩, 32) := ⟨⟨by decide +kernel, by decide +kernel⟩, List.mem_of_getElem? (i := 1201) (by decide +kernel), List.mem_of_getElem? (i := 1694) (by decide +kernel), List.mem_of_getElem? (i := 1695) (by decide +kernel)⟩
theorem lw_p140 : lw_okq (⟨"ObjectRulesModel", "prevent", "(I)Z"⟩, 32) := ⟨⟨by decide +kernel, by decide +kernel⟩, List.mem_of_getElem? (i := 1201) (by decide +kernel), List.mem_of_getElem? (i := 1698) (by decide +kernel), List.mem_of_getElem? (i := 1699) (by decide +kernel)⟩
theorem lw_p141 : lw_okq (⟨"ObjectRulesModel", "stopped", "(LObjectRulesModel$Stop;)I"⟩, 32) := ⟨⟨by decide +kernel, by decide +kernel⟩, List.mem_of_getElem? (i := 1201) (by decide +kernel), List.mem_of_getElem? (i := 1702) (by decide +kernel), List.mem_of_getElem? (i := 1703) (by decide +kernel)⟩
theorem lw_p142 : lw_okq (⟨"ObjectRulesModel", "hasLevel", "(IZ)Z"⟩, 32) := ⟨⟨by decide +kernel, by decide +kernel⟩, List.mem_of_getElem? (i := 1201) (by decide +kernel), List.mem_of_getElem? (i := 1754) (by decide +kernel), List.mem_of_getElem? (i := 1755) (by decide +kernel)⟩
theorem lw_p143 : lw_okq (⟨"ObjectRulesModel", "setLevel", "(IZ)Z"⟩, 32) := ⟨⟨by decide +kernel, by decide +kernel⟩, List.mem_of_getElem? (i := 1201) (by decide +kernel), List.mem_of_getElem? (i := 1758) (by decide +kernel), List.mem_of_getElem? (i := 1759) (by decide +kernel)⟩
def lw_privs_9 : List (MethodName × Nat) := [(⟨"ObjectRulesModel", "reflect", "(IIIII)I"⟩, 32), (⟨"ObjectRulesModel", "delete", "(II)Z"⟩, 32), (⟨"ObjectRulesModel", "keys", "(I)LObjectRulesModel$Keys;"⟩, 32), (⟨"ObjectRulesModel", "ordinaryKeys", "(I)LObjectRulesModel$Keys;"⟩, 32), (⟨"ObjectRulesModel", "list", "()LObjectRulesModel$Keys;"⟩, 32), (⟨"ObjectRulesModel", "trappedKeys", "(III)LObjectRulesModel$Keys;"⟩, 32), (⟨"ObjectRulesModel", "listOf", "(I)LObjectRulesModel$Keys;"⟩, 32), (⟨"ObjectRulesModel", "keep", "(ILObjectRulesModel$Keys;)LObjectRulesModel$Keys;"⟩, 32), (⟨"ObjectRulesModel", "fromKeys", "(LObjectRulesModel$Keys;)I"⟩, 32), (⟨"ObjectRulesModel", "parentOf", "(I)I"⟩, 32), (⟨"ObjectRulesModel", "setParentOf", "(II)Z"⟩, 32), (⟨"ObjectRulesModel", "setOrdinaryParent", "(II)Z"⟩, 32), (⟨"ObjectRulesModel", "prevent", "(I)Z"⟩, 32), (⟨"ObjectRulesModel", "stopped", "(LObjectRulesModel$Stop;)I"⟩, 32), (⟨"ObjectRulesModel", "hasLevel", "(IZ)Z"⟩, 32), (⟨"ObjectRulesModel", "setLevel", "(IZ)Z"⟩, 32)]
theorem lw_r9 : ∀ q ∈ lw_privs_9, lw_okq q := List.forall_mem_cons.mpr ⟨lw_p128, List.forall_mem_cons.mpr ⟨lw_p129, List.forall_mem_cons.mpr ⟨lw_p130, List.forall_mem_cons.mpr ⟨lw_p131, List.forall_mem_cons.mpr ⟨lw_p132, List.forall_mem_cons.mpr ⟨lw_p133, List.forall_mem_cons.mpr ⟨lw_p134, List.forall_mem_cons.mpr ⟨lw_p135, List.forall_mem_cons.mpr ⟨lw_p136, List.forall_mem_cons.mpr ⟨lw_p137, List.forall_mem_cons.mpr ⟨lw_p138, List.forall_mem_cons.mpr ⟨lw_p139, List.forall_mem_cons.mpr ⟨lw_p140, List.forall_mem_cons.mpr ⟨lw_p141, List.forall_mem_cons.mpr ⟨lw_p142, List.forall_mem_cons.mpr ⟨lw_p143, fun _ h => absurd h List.not_mem_nil⟩⟩⟩⟩⟩⟩⟩⟩⟩⟩⟩⟩⟩⟩⟩⟩
def lw_privs : List (MethodName × Nat) := lw_privs_1 ++ (lw_privs_2 ++ (lw_privs_3 ++ (lw_privs_4 ++ (lw_privs_5 ++ (lw_privs_6 ++ (lw_privs_7 ++ (lw_privs_8 ++ (lw_privs_9))))))))
def lw_tbl : List Cond := k2_sels lw_privs ++ tables_1
theorem lw_privs_ok : ∀ q ∈ lw_privs, lw_okq q := by
  show ∀ q ∈ lw_privs_1 ++ (lw_privs_2 ++ (lw_privs_3 ++ (lw_privs_4 ++ (lw_privs_5 ++ (lw_privs_6 ++ (lw_privs_7 ++ (lw_privs_8 ++ (lw_privs_9)))))))), lw_okq q
  exact List.forall_mem_append.mpr ⟨lw_r1, List.forall_mem_append.mpr ⟨lw_r2, List.forall_mem_append.mpr ⟨lw_r3, List.forall_mem_append.mpr ⟨lw_r4, List.forall_mem_append.mpr ⟨lw_r5, List.forall_mem_append.mpr ⟨lw_r6, List.forall_mem_append.mpr ⟨lw_r7, List.forall_mem_append.mpr ⟨lw_r8, lw_r9⟩⟩⟩⟩⟩⟩⟩⟩
theorem goodIn_r {big : List Cond} (ws : List Cond) (ps : List Nat) (hp : ws = ps.filterMap (fun i => big[i]?)) (h : ws.all goodWord = true) : GoodIn big ws := by
  intro w hw
  have h1 := List.all_eq_true.mp h w hw
  rw [hp] at hw
  obtain ⟨i, -, hi⟩ := List.mem_filterMap.mp hw
  have hm : w ∈ big := by first | exact List.mem_of_getElem? hi | exact List.getElem?_mem hi
  exact ⟨hm, good_of_word h1⟩
theorem goodIn_app {big a b : List Cond} (ha : GoodIn big a) (hb : GoodIn big b) : GoodIn big (a ++ b) := fun w h => (List.mem_append.mp h).elim (ha w) (hb w)
theorem goodIn_ca {big a b : List Cond} {c : Cond} (ha : GoodIn big (c :: a)) (hb : GoodIn big b) : GoodIn big (c :: (a ++ b)) := fun w h => (List.mem_cons.mp h).elim (fun e => ha w (List.mem_cons.mpr (Or.inl e))) (fun h => (List.mem_append.mp h).elim (fun h => ha w (List.mem_cons.mpr (Or.inr h))) (hb w))
theorem goodIn_sub {big ws : List Cond} (hm : ∀ w ∈ ws, w ∈ big) (h : ws.all goodWord = true) : GoodIn big ws := fun w hw => ⟨hm w hw, good_of_word (List.all_eq_true.mp h w hw)⟩
section VXA
/-! The laws vx_back, vx_callV, vx_callS, vx_callSW, vx_throw0, vx_throwS follow proofs of the library, with one case more: JvmDerived/Free/Laws.lean (Back.of_free), Shelf42/LK1.lean (callV, callS), Shelf/KitTraced.lean (throwNew0V, throwNewS). -/
/-- where a method has thrown q: the class by its name, the cell, what was written, the world -/
def vx_T (XC : Addr → String → State → State → Prop) (st : State) (q : Addr) (t : State) (mc ms : Nat) (free : Addr → Prop) : Prop :=
  ∃ (E : String) (ce : Cell) (L : List Loc), XC q E st t ∧ t.heap[q]? = some ce ∧ ce.vm = .none ∧ st.vm.findClass E = some ce.cls ∧ st.WarmedH t.vm ∧ st.sameButNew ({ t with vm := st.vm } : State) L mc ms ∧ ∀ z ∈ L, free z.base
def vx_Q (Qc : Array Value → State → Outcome → State → Prop) (XC : Addr → String → State → State → Prop) (mc ms : Nat) (free : Addr → Prop) : Array Value → State → Outcome → State → Prop := fun a st o t =>
  (Qc a st o t ∧ ∃ L, FrameEnd st o t L mc ms ∧ ∀ q ∈ L, free q.base) ∨ ∃ q, o = .threw q ∧ vx_T XC st q t mc ms free
/-- a callee that returns or throws -/
def vx_Met (l : Launch) (y : MethodName) (ws : List Cond) (rm : Room) (Pc : Array Value → State → Prop) (Qc : Array Value → State → Outcome → State → Prop) (XC : Addr → String → State → State → Prop) (mc ms : Nat) (free : Addr → Prop) : Prop :=
  MetFree l y (headSpec ws rm) Pc (fun _ _ _ _ _ => True) (vx_Q Qc XC mc ms free)
def vx_Post (XC : Addr → String → State → State → Prop) (mc ms : Nat) (free : Addr → Prop) : Pt → Array Value → Addr → Pt → Prop := fun A a q B =>
  ∃ (g : JFrame) (mk : MethodId) (t : State) (L : List Loc) (E : String) (ce : Cell), B.U.heap = t.heap ∧ B.U.vm = t.vm ∧ XC q E (A.U.calling g mk a) t ∧ t.heap[q]? = some ce ∧ ce.vm = .none ∧ A.U.vm.findClass E = some ce.cls ∧ B.locs = A.locs ++ L ∧ (∀ z ∈ L, free z.base) ∧ B.cells = A.cells + mc ∧ B.slots = A.slots + ms
def vx_Back (l : Launch) (R : Room) (p : Program) (e : Env) (below : List Frame) (s : State) (sargs : Array Value) (y : MethodName) (len W9 : Nat)
    (Pre : Pt → Array Value → Prop) (Post : Pt → Array Value → Option Value → Pt → Prop) (PostX : Pt → Array Value → Addr → Pt → Prop) : Prop :=
  ∀ (m : MethodId) (meth : Method) (c : Code) (A : Pt) (g : JFrame) (ig : Instr) (mk : MethodId) (a : Array Value),
    Stand p l e R s m sargs below meth c A.U A.locs A.cells A.slots → g.method = m → g.locals.size = c.maxLocals → decode c.code g.pc = .ok (ig, len) →
    2 * g.monitorRoom + (g.stack.map fun v => v.category).sum ≤ W9 → A.U.methodNamed? y = some mk → Pre A a →
    (∃ (v : Option Value) (B : Pt), Stand p l e R s m sargs below meth c B.U B.locs B.cells B.slots ∧ Post A a v B ∧
      Steps p.tables e below (doInvoke e (A.U.setTop g) [] mk a).1 (B.U.setTop { g with pc := g.pc + len, stack := v.toList ++ g.stack })) ∨
    (∃ (q : Addr) (B : Pt), Stand p l e R s m sargs below meth c B.U B.locs B.cells B.slots ∧ PostX A a q B ∧
      Steps p.tables e below (doInvoke e (A.U.setTop g) [] mk a).1 ((B.U.setTop g).pushFrame (.throwing q)))
section Payer
variable {l : Launch} {R : Room} {p : Program} {e : Env} {below : List Frame} {s : State} {sargs : Array Value} {y : MethodName} {len W9 : Nat}
theorem vx_back {ws : List Cond} {rm : Room} {Pc : Array Value → State → Prop} {Qc : Array Value → State → Outcome → State → Prop} {XC : Addr → String → State → State → Prop} {mc ms : Nat} {free : Addr → Prop} {bytes : ByteArray} {maxL : Nat} {ret : Option FieldType}
    (hM : vx_Met l y ws rm Pc Qc XC mc ms free) (hblind : FrameBlind Pc) (hrc : rm.cells = mc) (hrs : rm.slots = ms)
    (hframes : rm.frames + 1 ≤ R.frames) (hlocals : W9 + (maxL + 11) + rm.locals ≤ R.locals)
    (hws : ∀ w ∈ ws, ∀ a' U, s.WarmedH U.vm → w.before a' U = true) (hcode : Cond.code y bytes maxL ret ∈ ws) (hinit : ∀ a' U, s.WarmedH U.vm → (Cond.initialized y.cls).before a' U = true) :
    vx_Back l R p e below s sargs y len W9 (PreOf R mc ms Pc) (PostOf Qc mc ms free) (vx_Post XC mc ms free) := by
  intro m meth c A g ig mk a X hg hsize hdg hW hn hp
  have h1 : (headSpec ws rm).pre.before a A.U = true := atoms_intro fun w hw => hws w hw _ _ X.warmed
  have h2 : (Cond.code y bytes maxL ret).before a A.U = true := hws _ hcode _ _ X.warmed
  have h3 : (Cond.initialized y.cls).before a A.U = true := hinit _ _ X.warmed
  have h4 : A.cells + (headSpec ws rm).room.cells ≤ R.cells := by rw [show (headSpec ws rm).room.cells = mc from hrc]; exact hp.1
  have h5 : A.slots + (headSpec ws rm).room.slots ≤ R.slots := by rw [show (headSpec ws rm).room.slots = ms from hrs]; exact hp.2.1
  have hPc : Pc a (A.U.calling g mk a) := hblind _ _ _ _ hp.2.2
  obtain ⟨U, Ls, c0, s0⟩ := A
  dsimp only [Pt.U, Pt.locs, Pt.cells, Pt.slots] at h1 h2 h3 h4 h5 X hn hPc ⊢
  obtain ⟨methY, cY, hmY, hcY, -, hlY, -, -, -, -⟩ := Cond.code_spec hn h2
  obtain ⟨kY, hkY, -⟩ := className_of_methodNamed hn
  have hinitY : kY.init = .initialized := Cond.initialized_spec (findClass_of_methodNamed hn) hkY h3
  have h : At U g.method c below := by rw [hg]; exact X.here
  have hlocals9 : W9 + (maxL + 11) + (headSpec ws rm).room.locals ≤ R.locals := hlocals
  have happ : (headSpec ws rm).appliesLoose y e.platform (U.calling g mk a) = true :=
    Spec.appliesLoose_calling (g := g) h hdg hn hkY hinitY
      (X.room_calling (g := g) (R' := (headSpec ws rm).room) hsize hmY hcY hframes (by rw [hlY]; omega) h4 h5) h1
  obtain ⟨mid, hmid⟩ := h.above
  have hfr : (U.setTop g).frames = (.java g :: mid) ++ below := by rw [State.frames_setTop' g h.top, hmid]; rfl
  obtain ⟨o, s₂, hsteps, -, hend, hq⟩ := Steps.callFree hM p X.admits X.cas X.clock (acts := []) hfr happ hPc trivial
  have hq' : vx_Q Qc XC mc ms free a (U.calling g mk a) o s₂ := hq
  rw [State.frames_setTop' g h.top] at hend
  obtain ⟨g₀, hg0⟩ := Option.isSome_iff_exists.mp h.top
  obtain ⟨r, hr⟩ := State.topJava?_eq_some.mp hg0
  have hr' : (({ U with heap := s₂.heap, slotsUsed := s₂.slotsUsed } : State).setVm s₂.vm).frames = .java g₀ :: r := hr
  rcases hq' with ⟨hqc, L, hfe, hL⟩ | ⟨q, rfl, E, ce, L, hx, hce, hcv, hcl, hW₂, hsm, hL⟩
  · obtain ⟨⟨v, rfl⟩, hW₂, e2, q2, q3, q4, q5, q6⟩ := id hfe
    have e3 : s₂ = ({ (U.calling g mk a).setFrames s₂.frames with heap := s₂.heap, slotsUsed := s₂.slotsUsed } : State).setVm s₂.vm := by
      have : s₂ = ({ s₂ with vm := (U.calling g mk a).vm } : State).setVm s₂.vm := rfl
      rw [e2] at this
      exact this
    obtain ⟨c₂, i₂, len₂, hc₂, hd₂, hf₂⟩ := hend
    have hW' : U.WarmedH s₂.vm := hW₂
    have hcc : c₂ = c := by
      have h1 : s₂.code? g.method = U.code? g.method := by
        rw [State.code?_eq, State.code?_eq, hW'.alike.method?]
      exact Option.some.inj (hc₂.symm.trans (h1.trans h.code))
    subst hcc
    have hlen : len₂ = len := by rw [hdg] at hd₂; cases hd₂; rfl
    subst hlen
    have hs₂ : s₂ = (({ U with heap := s₂.heap, slotsUsed := s₂.slotsUsed } : State).setVm s₂.vm).setTop { g with pc := g.pc + len₂, stack := v.toList ++ g.stack } := by
      refine e3.trans ?_
      rw [hf₂, State.calling_eq h.top, State.setFrames_setFrames, State.setTop_of_frames _ hr', hr]
      rfl
    have hsame : U.sameButNew ({ U with heap := s₂.heap, slotsUsed := s₂.slotsUsed } : State) L mc ms := by
      refine ⟨?_, q2, q3, q4, q5, q6⟩
      obtain ⟨t, ht, -⟩ := State.frames_cons hr
      show ({ U with heap := s₂.heap, slotsUsed := s₂.slotsUsed } : State) = { U.setFrames U.frames with heap := s₂.heap, slotsUsed := s₂.slotsUsed }
      rw [State.setFrames_self ht]
    subst hg
    refine Or.inl ⟨v, ⟨(({ U with heap := s₂.heap, slotsUsed := s₂.slotsUsed } : State).setVm s₂.vm), Ls ++ L, c0 + mc, s0 + ms⟩,
      ⟨X.admits, X.cas, X.clock, X.frames, X.room, X.hears, X.method, X.code, (X.here.setHeapUsed s₂.heap s₂.slotsUsed).setVm hW'.alike, X.tail, State.WarmedH.trans X.warmed hW', X.limits, X.bytes, X.same.trans (hsame.setVm s.vm)⟩,
      ⟨g, mk, s₂, L, rfl, rfl, hqc, rfl, hL, rfl, rfl⟩, ?_⟩
    show Steps p.tables e below _ ((({ U with heap := s₂.heap, slotsUsed := s₂.slotsUsed } : State).setVm s₂.vm).setTop { g with pc := g.pc + len₂, stack := v.toList ++ g.stack })
    rw [← hs₂]
    exact hsteps
  · obtain ⟨e2, q2, q3, q4, q5, q6⟩ := id hsm
    have e3 : s₂ = ({ (U.calling g mk a).setFrames s₂.frames with heap := s₂.heap, slotsUsed := s₂.slotsUsed } : State).setVm s₂.vm := by
      have : s₂ = ({ s₂ with vm := (U.calling g mk a).vm } : State).setVm s₂.vm := rfl
      rw [e2] at this
      exact this
    have hf₂ : s₂.frames = .throwing q :: .java g :: U.frames.tail := hend
    have hW' : U.WarmedH s₂.vm := hW₂
    have hs₂ : s₂ = ((({ U with heap := s₂.heap, slotsUsed := s₂.slotsUsed } : State).setVm s₂.vm).setTop g).pushFrame (.throwing q) := by
      refine e3.trans ?_
      rw [hf₂, State.calling_eq h.top, State.setFrames_setFrames, State.pushFrame, State.frames_setTop _ hr', State.setTop_of_frames _ hr', State.setFrames_setFrames, hr]
      rfl
    have hsame : U.sameButNew ({ U with heap := s₂.heap, slotsUsed := s₂.slotsUsed } : State) L mc ms := by
      refine ⟨?_, q2, q3, q4, q5, q6⟩
      obtain ⟨t, ht, -⟩ := State.frames_cons hr
      show ({ U with heap := s₂.heap, slotsUsed := s₂.slotsUsed } : State) = { U.setFrames U.frames with heap := s₂.heap, slotsUsed := s₂.slotsUsed }
      rw [State.setFrames_self ht]
    subst hg
    refine Or.inr ⟨q, ⟨(({ U with heap := s₂.heap, slotsUsed := s₂.slotsUsed } : State).setVm s₂.vm), Ls ++ L, c0 + mc, s0 + ms⟩,
      ⟨X.admits, X.cas, X.clock, X.frames, X.room, X.hears, X.method, X.code, (X.here.setHeapUsed s₂.heap s₂.slotsUsed).setVm hW'.alike, X.tail, State.WarmedH.trans X.warmed hW', X.limits, X.bytes, X.same.trans (hsame.setVm s.vm)⟩,
      ⟨g, mk, s₂, L, E, ce, rfl, rfl, hx, hce, hcv, hcl, rfl, hL, rfl, rfl⟩, ?_⟩
    show Steps p.tables e below _ (((({ U with heap := s₂.heap, slotsUsed := s₂.slotsUsed } : State).setVm s₂.vm).setTop g).pushFrame (.throwing q))
    rw [← hs₂]
    exact hsteps
end Payer
section Calls
variable {p : Program} {l : Launch} {e : Env} {R : Room} {s : State} {m : MethodId} {args : Array Value} {below : List Frame} {meth : Method} {c : Code} {T : State} {locs : List Loc} {cells slots : Nat}
theorem vx_callV (X : Stand p l e R s m args below meth c T locs cells slots) (hexec : p.tables.exec = Jvm.exec) {own C : String} {index : Nat} {y : MethodName} {bytes : ByteArray} {maxL : Nat} {ret : Option FieldType}
    (hown : s.vm.findClass own = some m.cls) (hlink : (Cond.methodLink own index y).before args s = true) (hinst : (Cond.instanceMethod y).before args s = true) (hsel : (Cond.selects C y y).before args s = true)
    (hcode : (Cond.code y bytes maxL ret).before args s = true) (hy : y.cls ≠ "java/lang/invoke/MethodHandle" ∧ y.cls ≠ "java/lang/invoke/VarHandle")
    {W9 : Nat} {Pre : Pt → Array Value → Prop} {Post : Pt → Array Value → Option Value → Pt → Prop} {PostX : Pt → Array Value → Addr → Pt → Prop} (hK : vx_Back l R p e below s args y 3 W9 Pre Post PostX)
    {b : Addr} {cellB : Cell} (hcell : T.heap[b]? = some cellB) (hobj : cellB.vm.isStatics = false) (hcls : s.vm.findClass C = some cellB.cls)
    {g : JFrame} (hg : g.method = m) (hsize : g.locals.size = c.maxLocals) {argsL rest : List Value} (hlen : ∀ sig, parseMethodDescriptor y.desc = some sig → argsL.length = sig.parameters.length)
    (hstack : g.stack = argsL.reverse ++ .ref b :: rest) (hW : 2 * g.monitorRoom + (rest.map fun v => v.category).sum ≤ W9) (hdg : decode c.code g.pc = .ok (.invokevirtual index, 3))
    (hpre : ∀ vm₁, s.WarmedH vm₁ → Pre ⟨T.setVm vm₁, locs, cells, slots⟩ (Value.ref b :: argsL).toArray) :
    (∃ (v : Option Value) (vm₁ : Vm) (B : Pt), s.WarmedH vm₁ ∧ Stand p l e R s m args below meth c B.U B.locs B.cells B.slots ∧ Post ⟨T.setVm vm₁, locs, cells, slots⟩ (Value.ref b :: argsL).toArray v B ∧
      ∀ target, Steps p.tables e below (B.U.setTop { g with pc := g.pc + 3, stack := v.toList ++ rest }) target → Steps p.tables e below (T.setTop g) target) ∨
    (∃ (q : Addr) (vm₁ : Vm) (B : Pt), s.WarmedH vm₁ ∧ Stand p l e R s m args below meth c B.U B.locs B.cells B.slots ∧ PostX ⟨T.setVm vm₁, locs, cells, slots⟩ (Value.ref b :: argsL).toArray q B ∧
      Steps p.tables e below (T.setTop g) ((B.U.setTop { g with stack := rest }).pushFrame (.throwing q))) := by
  obtain ⟨mk, methM, hnamed, hmethM, hstM, habM⟩ := Cond.instanceMethod_spec hinst
  obtain ⟨methM', cM, hmethM', -, -, -, -, -, -, hsigM⟩ := Cond.code_spec hnamed hcode
  cases hmethM.symm.trans hmethM'
  obtain ⟨c2, r2, m2, q1, q2, q3, q4, kP, hkP, hkPi⟩ := Cond.selects_spec hsel
  cases hcls.symm.trans q1
  cases (State.methodFound?_of_named hnamed hy).symm.trans q2
  cases hnamed.symm.trans q3
  have hselP : selectMethod e.platform s.vm cellB.cls mk = .method mk := by rw [Launch.admits_selectMethod X.admits]; exact q4
  obtain ⟨vm₁, X₁, hstep₁⟩ := X.invokevirtual hexec hown hlink hnamed hmethM hstM hkP hkPi hy (a := b) (cell := cellB) hcell
    (fun z h => by rw [h] at hobj; cases hobj) hselP hmethM habM hkP hkPi (g := g) hg (argsL := argsL) (rest := rest) (hlen _ hsigM) hstack hdg
  rcases hK m meth c ⟨T.setVm vm₁, locs, cells, slots⟩ { g with stack := rest } (.invokevirtual index) mk (Value.ref b :: argsL).toArray X₁ hg hsize hdg hW (X₁.named hnamed) (hpre vm₁ X₁.warmed) with ⟨v, B, X', hpost, hsteps⟩ | ⟨q, B, X', hpost, hsteps⟩
  · exact Or.inl ⟨v, vm₁, B, X₁.warmed, X', hpost, fun target h => hstep₁ _ fun acts => by rw [doInvoke_state]; exact hsteps.trans h⟩
  · exact Or.inr ⟨q, vm₁, B, X₁.warmed, X', hpost, hstep₁ _ fun acts => by rw [doInvoke_state]; exact hsteps⟩
theorem vx_callS (X : Stand p l e R s m args below meth c T locs cells slots) (hexec : p.tables.exec = Jvm.exec) {own : String} {index : Nat} {y : MethodName} {bytes : ByteArray} {maxL : Nat} {ret : Option FieldType}
    (hown : s.vm.findClass own = some m.cls) (hlink : (Cond.methodLink own index y).before args s = true) (hstat : (Cond.static y).before args s = true) (hinit : (Cond.initialized y.cls).before args s = true)
    (hcode : (Cond.code y bytes maxL ret).before args s = true) (hy : y.cls ≠ "java/lang/invoke/MethodHandle" ∧ y.cls ≠ "java/lang/invoke/VarHandle")
    {W9 : Nat} {Pre : Pt → Array Value → Prop} {Post : Pt → Array Value → Option Value → Pt → Prop} {PostX : Pt → Array Value → Addr → Pt → Prop} (hK : vx_Back l R p e below s args y 3 W9 Pre Post PostX)
    {g : JFrame} (hg : g.method = m) (hsize : g.locals.size = c.maxLocals) {argsL rest : List Value} (hlen : ∀ sig, parseMethodDescriptor y.desc = some sig → argsL.length = sig.parameters.length)
    (hstack : g.stack = argsL.reverse ++ rest) (hW : 2 * g.monitorRoom + (rest.map fun v => v.category).sum ≤ W9) (hdg : decode c.code g.pc = .ok (.invokestatic index, 3))
    (hpre : ∀ vm₁, s.WarmedH vm₁ → Pre ⟨T.setVm vm₁, locs, cells, slots⟩ argsL.toArray) :
    (∃ (v : Option Value) (vm₁ : Vm) (B : Pt), s.WarmedH vm₁ ∧ Stand p l e R s m args below meth c B.U B.locs B.cells B.slots ∧ Post ⟨T.setVm vm₁, locs, cells, slots⟩ argsL.toArray v B ∧
      ∀ target, Steps p.tables e below (B.U.setTop { g with pc := g.pc + 3, stack := v.toList ++ rest }) target → Steps p.tables e below (T.setTop g) target) ∨
    (∃ (q : Addr) (vm₁ : Vm) (B : Pt), s.WarmedH vm₁ ∧ Stand p l e R s m args below meth c B.U B.locs B.cells B.slots ∧ PostX ⟨T.setVm vm₁, locs, cells, slots⟩ argsL.toArray q B ∧
      Steps p.tables e below (T.setTop g) ((B.U.setTop { g with stack := rest }).pushFrame (.throwing q))) := by
  obtain ⟨mk, hnamed⟩ := Cond.code_named hcode
  obtain ⟨methM, cM, hmethM, -, -, -, -, -, -, hsigM⟩ := Cond.code_spec hnamed hcode
  have hstatic : methM.isStatic = true := Cond.static_spec hnamed hmethM hstat
  obtain ⟨kP, hkP, -⟩ := className_of_methodNamed hnamed
  have hinitP : kP.init = .initialized := Cond.initialized_spec (findClass_of_methodNamed hnamed) hkP hinit
  obtain ⟨vm₁, X₁, hstep₁⟩ := X.invokestatic hexec hown hlink hnamed hmethM hstatic hkP hinitP hy (g := g) hg (argsL := argsL) (rest := rest) (hlen _ hsigM) hstack hdg
  rcases hK m meth c ⟨T.setVm vm₁, locs, cells, slots⟩ { g with stack := rest } (.invokestatic index) mk argsL.toArray X₁ hg hsize hdg hW (X₁.named hnamed) (hpre vm₁ X₁.warmed) with ⟨v, B, X', hpost, hsteps⟩ | ⟨q, B, X', hpost, hsteps⟩
  · exact Or.inl ⟨v, vm₁, B, X₁.warmed, X', hpost, fun target h => hstep₁ _ fun acts => by rw [doInvoke_state]; exact hsteps.trans h⟩
  · exact Or.inr ⟨q, vm₁, B, X₁.warmed, X', hpost, hstep₁ _ fun acts => by rw [doInvoke_state]; exact hsteps⟩
end Calls
theorem vx_cls {s : State} {T : State} {vm₁ : Vm} {E : String} {k : ClassId} (hW : s.WarmedH vm₁) (h : (T.setVm vm₁).vm.findClass E = some k) : s.vm.findClass E = some k := by
  have h1 : vm₁.findClass E = some k := h
  rw [hW.alike.findClass] at h1
  exact h1
/-- the method's frame g, with q thrown over it -/
def vx_W (p : Program) (l : Launch) (e : Env) (R : Room) (s : State) (m : MethodId) (args : Array Value) (below : List Frame) (meth : Method) (c : Code) (H : Heap) (locs : List Loc) (cells slots : Nat) (Q : State → Prop) (g : JFrame) (q : Addr) : Prop :=
  ∀ T : State, T.heap = H → Stand p l e R s m args below meth c T locs cells slots → ∃ t, Steps p.tables e below ((T.setTop g).pushFrame (.throwing q)) t ∧ Q t
def vx_Run (p : Program) (l : Launch) (e : Env) (R : Room) (s : State) (m : MethodId) (args : Array Value) (below : List Frame) (meth : Method) (c : Code) (H : Heap) (locs : List Loc) (cells slots mc ms : Nat) (g : JFrame) (rest : List Value) (Qa : State → Outcome → State → Prop) (XC : Addr → String → State → State → Prop) (free : Addr → Prop) : Prop :=
  ∀ T : State, T.heap = H → Stand p l e R s m args below meth c T locs cells slots →
    (∃ (v : Option Value) (st₀ t T' : State) (L : List Loc), st₀.heap = H ∧ Stand p l e R s m args below meth c T' (locs ++ L) (cells + mc) (slots + ms) ∧ (∀ q ∈ L, free q.base) ∧ T'.heap = t.heap ∧ T'.vm = t.vm ∧ Qa st₀ (.returned v) t ∧
      Goes p e below T g T' { g with pc := g.pc + 3, stack := v.toList ++ rest }) ∨
    (∃ (q : Addr) (st₀ t T' : State) (L : List Loc) (E : String) (ce : Cell), st₀.heap = H ∧ Stand p l e R s m args below meth c T' (locs ++ L) (cells + mc) (slots + ms) ∧ (∀ z ∈ L, free z.base) ∧ T'.heap = t.heap ∧ T'.vm = t.vm ∧ XC q E st₀ t ∧ t.heap[q]? = some ce ∧ ce.vm = .none ∧ s.vm.findClass E = some ce.cls ∧
      Steps p.tables e below (T.setTop g) ((T'.setTop { g with stack := rest }).pushFrame (.throwing q)))
def vx_X {S : Type} (px : S → Prop) (B : Addr → String → S → State → Prop) (A : Nat → Prop) : Addr → String → State → State → Prop := fun q E st t => ∃ u : S, px u ∧ B q E u t ∧ va_F A st t
section Runs
variable {p : Program} {l : Launch} {e : Env} {R : Room} {s : State} {m : MethodId} {args : Array Value} {below : List Frame} {meth : Method} {c : Code} {H : Heap} {locs : List Loc} {cells slots : Nat}
variable {y : MethodName} {bytes cc : ByteArray} {maxL nL mc ms n index : Nat} {ret : Option FieldType} {ws : List Cond} {rm : Room} {Pc : Array Value → State → Prop} {Qc : Array Value → State → Outcome → State → Prop} {XC : Addr → String → State → State → Prop} {free : Addr → Prop} {Ts : List Cond} {own C : String} {b : Addr} {As rest : List Value} {g : JFrame}
theorem vx_callBack (cb : CallB R s args own index y bytes maxL ret ws rm mc ms n) (hM : vx_Met l y ws rm Pc Qc XC mc ms free) (hbl : FrameBlind Pc) : vx_Back l R p e below s args y 3 8 (PreOf R mc ms Pc) (PostOf Qc mc ms free) (vx_Post XC mc ms free) := by
  obtain ⟨hrc, hrs, hfr, hlo, hws, hcw, -, hini, -⟩ := cb
  exact vx_back (bytes := bytes) (maxL := maxL) (ret := ret) hM hbl hrc hrs hfr hlo hws hcw (fun a' U hW => word_at hW (Or.inl (by first | rfl | simp [Cond.onTables, Cond.keeps, Cond.steady])) hini)
theorem vx_runV (S : CallFix p m c cc nL s args Ts own) (hM : vx_Met l y ws rm Pc Qc XC mc ms free) (cw : CallW R s args own C index y bytes maxL ret ws rm mc ms n) (hp : PreV s H C b Pc As)
    (hg : g.method = m) (hn : As.length = n) (hsize : g.locals.size = nL) (hstack : g.stack = As.reverse ++ .ref b :: rest) (hW : 2 * g.monitorRoom + (rest.map fun v => v.category).sum ≤ 8) (hdg : decode cc g.pc = .ok (.invokevirtual index, 3)) (hf : cells + mc ≤ R.cells ∧ slots + ms ≤ R.slots) :
    vx_Run p l e R s m args below meth c H locs cells slots mc ms g rest (Qc (Value.ref b :: As).toArray) XC free := by
  have hK : vx_Back l R p e below s args y 3 8 (PreOf R mc ms Pc) (PostOf Qc mc ms free) (vx_Post XC mc ms free) := vx_callBack cw.1 hM hp.1
  obtain ⟨⟨-, -, -, -, -, -, hcode, -, hy, hlen, hl⟩, hin, hse⟩ := cw
  obtain ⟨hx, hb, hml, ho, -⟩ := S
  obtain ⟨-, ⟨cellB, hcB, hoB, hclB⟩, hPc⟩ := hp
  intro T hT X
  rcases vx_callV X hx (C := C) (bytes := bytes) (maxL := maxL) (ret := ret) ho hl hin hse hcode hy hK (by rw [hT]; exact hcB) hoB hclB hg (hsize.trans hml.symm) (argsL := As) (rest := rest) (fun sig h => hn.trans (hlen sig h)) hstack hW (by rw [hb]; exact hdg)
    (fun vm₁ hW₁ => ⟨hf.1, hf.2, hPc (T.setVm vm₁) hT hW₁⟩) with ⟨v, vm₁, ⟨U', l2, c2, s2⟩, hW₁, X', ⟨g', mk, t, L, e1, e2, hq, h1, hL, h2, h3⟩, st⟩ | ⟨q, vm₁, ⟨U', l2, c2, s2⟩, hW₁, X', ⟨g', mk, t, L, E, ce, e1, e2, hq, hce, hcv, hcl, h1, hL, h2, h3⟩, st⟩
  · dsimp only [Pt.U, Pt.locs, Pt.cells, Pt.slots] at X' e1 e2 h1 h2 h3 st
    subst h1; subst h2; subst h3
    exact Or.inl ⟨v, (T.setVm vm₁).calling g' mk (Value.ref b :: As).toArray, t, U', L, hT, X', hL, e1, e2, hq, st⟩
  · dsimp only [Pt.U, Pt.locs, Pt.cells, Pt.slots] at X' e1 e2 h1 h2 h3 st hcl
    subst h1; subst h2; subst h3
    exact Or.inr ⟨q, (T.setVm vm₁).calling g' mk (Value.ref b :: As).toArray, t, U', L, E, ce, hT, X', hL, e1, e2, hq, hce, hcv, vx_cls hW₁ hcl, st⟩
theorem vx_runS (S : CallFix p m c cc nL s args Ts own) (hM : vx_Met l y ws rm Pc Qc XC mc ms free) (cw : CallB R s args own index y bytes maxL ret ws rm mc ms n ∧ (Cond.static y).before args s = true) (hp : PreS s H Pc As)
    (hg : g.method = m) (hn : As.length = n) (hsize : g.locals.size = nL) (hstack : g.stack = As.reverse ++ rest) (hW : 2 * g.monitorRoom + (rest.map fun v => v.category).sum ≤ 8) (hdg : decode cc g.pc = .ok (.invokestatic index, 3)) (hf : cells + mc ≤ R.cells ∧ slots + ms ≤ R.slots) :
    vx_Run p l e R s m args below meth c H locs cells slots mc ms g rest (Qc As.toArray) XC free := by
  have hK : vx_Back l R p e below s args y 3 8 (PreOf R mc ms Pc) (PostOf Qc mc ms free) (vx_Post XC mc ms free) := vx_callBack cw.1 hM hp.1
  obtain ⟨⟨-, -, -, -, -, -, hcode, hini, hy, hlen, hl⟩, hstt⟩ := cw
  obtain ⟨hx, hb, hml, ho, -⟩ := S
  intro T hT X
  rcases vx_callS X hx (bytes := bytes) (maxL := maxL) (ret := ret) ho hl hstt hini hcode hy hK hg (hsize.trans hml.symm) (argsL := As) (rest := rest) (fun sig h => hn.trans (hlen sig h)) hstack hW (by rw [hb]; exact hdg)
    (fun vm₁ hW₁ => ⟨hf.1, hf.2, hp.2 (T.setVm vm₁) hT hW₁⟩) with ⟨v, vm₁, ⟨U', l2, c2, s2⟩, hW₁, X', ⟨g', mk, t, L, e1, e2, hq, h1, hL, h2, h3⟩, st⟩ | ⟨q, vm₁, ⟨U', l2, c2, s2⟩, hW₁, X', ⟨g', mk, t, L, E, ce, e1, e2, hq, hce, hcv, hcl, h1, hL, h2, h3⟩, st⟩
  · dsimp only [Pt.U, Pt.locs, Pt.cells, Pt.slots] at X' e1 e2 h1 h2 h3 st
    subst h1; subst h2; subst h3
    exact Or.inl ⟨v, (T.setVm vm₁).calling g' mk As.toArray, t, U', L, hT, X', hL, e1, e2, hq, st⟩
  · dsimp only [Pt.U, Pt.locs, Pt.cells, Pt.slots] at X' e1 e2 h1 h2 h3 st hcl
    subst h1; subst h2; subst h3
    exact Or.inr ⟨q, (T.setVm vm₁).calling g' mk As.toArray, t, U', L, E, ce, hT, X', hL, e1, e2, hq, hce, hcv, vx_cls hW₁ hcl, st⟩
end Runs
section Rows
variable {p : Program} {l : Launch} {e : Env} {R : Room} {s : State} {m : MethodId} {args : Array Value} {below : List Frame} {meth : Method} {c : Code} {H : Heap} {locs : List Loc} {cells slots : Nat} {Q : State → Prop}
variable {mc ms : Nat} {free : Addr → Prop} {A0 A1 : Nat → Prop} {H0 : Heap} {a : Array Value} {pc : Nat} {ls : Array Slot} {st0 rest : List Value}
theorem vx_keep {st₀ t T' : State} {L : List Loc} (h0 : st₀.heap = H) (e1 : T'.heap = t.heap) (hS : va_S A0 H0 H locs) (hA : ∀ q, q < H.size → A1 q → A0 q) (hf : ∀ q, free q → A0 q) (hL : ∀ q ∈ L, free q.base) (hF : va_F A1 st₀ t) :
    H.size ≤ T'.heap.size ∧ (∀ q : Nat, q < H.size → ¬ A1 q → T'.heap[q]? = H[q]?) ∧ va_S A0 H0 T'.heap (locs ++ L) := by
  obtain ⟨hz, hk⟩ := hF
  rw [h0] at hz hk
  exact ⟨by rw [e1]; exact hz, fun q h1 h2 => by rw [e1]; exact hk q h1 h2,
    ⟨Nat.le_trans hS.1 (by rw [e1]; exact hz), fun q h1 h2 => by rw [e1, hk q (Nat.lt_of_lt_of_le h1 hS.1) (fun z => h2 (hA q (Nat.lt_of_lt_of_le h1 hS.1) z))]; exact hS.2.1 q h1 h2, fun q hq => by
      rcases List.mem_append.mp hq with h | h
      · exact hS.2.2 q h
      · exact hf _ (hL q h)⟩⟩
theorem vx_calli {S SX : Type} {post : Int32 → S → Prop} {px : SX → Prop} {B : S → State → Prop} {BX : Addr → String → SX → State → Prop} {AX : Nat → Prop} (hr : vx_Run p l e R s m args below meth c H locs cells slots mc ms (F0 m pc ls st0) rest (va_Qi post B A1 a) (vx_X px BX AX) free) (hS : va_S A0 H0 H locs) (hA : ∀ q, q < H.size → A1 q → A0 q) (hf : ∀ q, free q → A0 q) (hAX : ∀ q, q < H.size → AX q → A0 q)
    (kx : ∀ (E : String) (ce : Cell) (q9 : Addr) (u : SX) (t : State) (H1 : Heap) (locs1 : List Loc), t.heap = H1 → s.vm.Alike t.vm → px u → BX q9 E u t → H.size ≤ H1.size → (∀ q : Nat, q < H.size → ¬ AX q → H1[q]? = H[q]?) → va_S A0 H0 H1 locs1 → H1[q9]? = some ce → ce.vm = .none → s.vm.findClass E = some ce.cls → vx_W p l e R s m args below meth c H1 locs1 (cells + mc) (slots + ms) Q (F0 m pc ls rest) q9)
    (kk : ∀ (r : Int32) (u : S) (t : State) (H1 : Heap) (locs1 : List Loc), t.heap = H1 → s.vm.Alike t.vm → post r u → B u t → H.size ≤ H1.size → (∀ q : Nat, q < H.size → ¬ A1 q → H1[q]? = H[q]?) → va_S A0 H0 H1 locs1 → W p l e R s m args below meth c H1 locs1 (cells + mc) (slots + ms) Q (F0 m (pc + 3) ls (.int r :: rest))) : W p l e R s m args below meth c H locs cells slots Q (F0 m pc ls st0) := by
  intro T hT X
  rcases hr T hT X with ⟨v, st₀, t, T', L, h0, X', hL, e1, e2, ⟨⟨r, u, hv, hp, hb⟩, hF⟩, st⟩ | ⟨q, st₀, t, T', L, E, ce, h0, X', hL, e1, e2, ⟨u, hp, hb, hF⟩, hce, hcv, hcl, st⟩
  · cases hv
    obtain ⟨k1, k2, k3⟩ := vx_keep h0 e1 hS hA hf hL hF
    obtain ⟨t2, a1, b1⟩ := kk r u t T'.heap (locs ++ L) e1.symm (by rw [← e2]; exact X'.warmed.alike) hp hb k1 k2 k3 T' rfl X'
    exact ⟨t2, st t2 a1, b1⟩
  · obtain ⟨k1, k2, k3⟩ := vx_keep h0 e1 hS hAX hf hL hF
    obtain ⟨t2, a1, b1⟩ := kx E ce q u t T'.heap (locs ++ L) e1.symm (by rw [← e2]; exact X'.warmed.alike) hp hb k1 k2 k3 (by rw [e1]; exact hce) hcv hcl T' rfl X'
    exact ⟨t2, st.trans a1, b1⟩
theorem vx_callv {S SX : Type} {post : S → Prop} {px : SX → Prop} {B : S → State → Prop} {BX : Addr → String → SX → State → Prop} {AX : Nat → Prop} (hr : vx_Run p l e R s m args below meth c H locs cells slots mc ms (F0 m pc ls st0) rest (va_Qv post B A1 a) (vx_X px BX AX) free) (hS : va_S A0 H0 H locs) (hA : ∀ q, q < H.size → A1 q → A0 q) (hf : ∀ q, free q → A0 q) (hAX : ∀ q, q < H.size → AX q → A0 q)
    (kx : ∀ (E : String) (ce : Cell) (q9 : Addr) (u : SX) (t : State) (H1 : Heap) (locs1 : List Loc), t.heap = H1 → s.vm.Alike t.vm → px u → BX q9 E u t → H.size ≤ H1.size → (∀ q : Nat, q < H.size → ¬ AX q → H1[q]? = H[q]?) → va_S A0 H0 H1 locs1 → H1[q9]? = some ce → ce.vm = .none → s.vm.findClass E = some ce.cls → vx_W p l e R s m args below meth c H1 locs1 (cells + mc) (slots + ms) Q (F0 m pc ls rest) q9)
    (kk : ∀ (u : S) (t : State) (H1 : Heap) (locs1 : List Loc), t.heap = H1 → s.vm.Alike t.vm → post u → B u t → H.size ≤ H1.size → (∀ q : Nat, q < H.size → ¬ A1 q → H1[q]? = H[q]?) → va_S A0 H0 H1 locs1 → W p l e R s m args below meth c H1 locs1 (cells + mc) (slots + ms) Q (F0 m (pc + 3) ls (rest))) : W p l e R s m args below meth c H locs cells slots Q (F0 m pc ls st0) := by
  intro T hT X
  rcases hr T hT X with ⟨v, st₀, t, T', L, h0, X', hL, e1, e2, ⟨⟨u, hv, hp, hb⟩, hF⟩, st⟩ | ⟨q, st₀, t, T', L, E, ce, h0, X', hL, e1, e2, ⟨u, hp, hb, hF⟩, hce, hcv, hcl, st⟩
  · cases hv
    obtain ⟨k1, k2, k3⟩ := vx_keep h0 e1 hS hA hf hL hF
    obtain ⟨t2, a1, b1⟩ := kk u t T'.heap (locs ++ L) e1.symm (by rw [← e2]; exact X'.warmed.alike) hp hb k1 k2 k3 T' rfl X'
    exact ⟨t2, st t2 a1, b1⟩
  · obtain ⟨k1, k2, k3⟩ := vx_keep h0 e1 hS hAX hf hL hF
    obtain ⟨t2, a1, b1⟩ := kx E ce q u t T'.heap (locs ++ L) e1.symm (by rw [← e2]; exact X'.warmed.alike) hp hb k1 k2 k3 (by rw [e1]; exact hce) hcv hcl T' rfl X'
    exact ⟨t2, st.trans a1, b1⟩
end Rows
section Ends
variable {p : Program} {l : Launch} {e : Env} {R : Room} {s : State} {m : MethodId} {args : Array Value} {below : List Frame} {meth : Method} {c : Code} {H : Heap} {locs : List Loc} {cells slots : Nat} {Q : State → Prop}
variable {mc ms : Nat} {free : Addr → Prop} {A0 A1 : Nat → Prop} {H0 : Heap} {a : Array Value} {ls : Array Slot} {st0 rest : List Value}
variable {Qc : Array Value → State → Outcome → State → Prop} {XC : Addr → String → State → State → Prop}
/-- what a body that may throw owes at its end -/
def vx_MQ (below : List Frame) (Qc : Array Value → State → Outcome → State → Prop) (XC : Addr → String → State → State → Prop) (a : Array Value) (s : State) (mc ms : Nat) (free : Addr → Prop) : State → Prop := fun t =>
  ∃ o, t.status = .running ∧ Ended t below o ∧ vx_Q Qc XC mc ms free a s o t
theorem vx_ret {g : JFrame} {mc ms : Nat} (k : W p l e R s m args below meth c H locs cells slots (MQ below Qc args s mc ms free) g) : W p l e R s m args below meth c H locs cells slots (vx_MQ below Qc XC args s mc ms free) g := by
  intro T hT X
  obtain ⟨t, a1, o, b1, b2, b3, b4⟩ := k T hT X
  exact ⟨t, a1, o, b1, b2, Or.inl ⟨b3, b4⟩⟩
/-- not caught here: it goes on to the caller -/
theorem vx_widen {g : JFrame} {q : Addr} {k n : Nat} (h1 : cells ≤ k) (h2 : slots ≤ n) (kk : vx_W p l e R s m args below meth c H locs k n Q g q) : vx_W p l e R s m args below meth c H locs cells slots Q g q := fun T hT X => kk T hT (stand_widen X h1 h2)
theorem vx_out {pc : Nat} {E : String} {ce : Cell} {q : Addr} {mc ms : Nat} (hout : ∀ x ∈ c.exceptionTable.toList, covers x pc = false) (hlocks : meth.locks = false) (hcell : H[q]? = some ce) (hv : ce.vm = .none) (hcl : s.vm.findClass E = some ce.cls)
    (hx : ∀ t : State, t.heap = H → s.vm.Alike t.vm → XC q E s t) (hf : ∀ z ∈ locs, free z.base) (hc : cells ≤ mc) (hs : slots ≤ ms) :
    vx_W p l e R s m args below meth c H locs cells slots (vx_MQ below Qc XC args s mc ms free) (F0 m pc ls rest) q := by
  intro T hT X
  obtain ⟨st1, hrun, hend, hW, hsm⟩ := X.leaveThrown q (g := F0 m pc ls rest) rfl rfl rfl hout hlocks
  have hcell9 : (T.setFrames (.throwing q :: below)).heap[q]? = some ce := by
    show T.heap[q]? = some ce
    rw [hT]; exact hcell
  exact ⟨_, st1, .threw q, hrun, hend, Or.inr ⟨q, rfl, E, ce, locs, hx _ hT hW.alike, hcell9, hv, hcl, hW, hsm.mono hc hs, hf⟩⟩
theorem vx_frame {U : State} {k n : Nat} (h : s.sameButNew ({ U with vm := s.vm } : State) locs k n) : s.heap.size ≤ U.heap.size ∧ ∀ q : Nat, q < s.heap.size → (∀ z ∈ locs, z.base ≠ q) → U.heap[q]? = s.heap[q]? := by
  obtain ⟨-, h2, -, -, -, h6⟩ := h
  refine ⟨h2, fun q hq hz => ?_⟩
  obtain ⟨c9, e1, e2, e3, e4⟩ := h6 q _ (Array.getElem?_eq_getElem hq)
  have hs : c9.slots = (s.heap[q]).slots := Array.ext_getElem? fun i => e4 i fun hm => hz _ hm rfl
  have h9 : c9 = s.heap[q] := by
    rw [hs] at e2
    exact e2
  have e5 : U.heap[q]? = some c9 := e1
  rw [e5, h9, Array.getElem?_eq_getElem hq]
/-- the words of a throw but the four that speak of the heap -/
def vx_no (w : Cond) : Bool := decide (w ≠ .isRef (.static Jvm.Bundle.tN "UNASSIGNED_STACK" Jvm.Bundle.steD)) && decide (w ≠ .isRef (.static Jvm.Bundle.tN "SUPPRESSED_SENTINEL" Jvm.Bundle.listD)) && decide (w ≠ .laysStatic Jvm.Bundle.tN "UNASSIGNED_STACK" Jvm.Bundle.steD) && decide (w ≠ .laysStatic Jvm.Bundle.tN "SUPPRESSED_SENTINEL" Jvm.Bundle.listD)
def vx_at0 (own : String) (ic : Nat) (X : String) (names : List String) : List Cond := (Jvm.Bundle.ownAtoms0 own ic X names).filter vx_no
def vx_atS (own : String) (ic : Nat) (X : String) (names : List String) : List Cond := (Jvm.Bundle.ownAtoms own ic X names).filter vx_no
/-- a word that the tables alone decide, or a good one -/
def vx_ot (w : Cond) : Bool := w.onTables || goodWord w
theorem vx_ot_at {args a' : Array Value} {s U : State} {w : Cond} (hW : s.WarmedH U.vm) (hvm : s.vm = U.vm) (hg : vx_ot w = true) (h : w.before args s = true) : w.before a' U = true := by
  simp only [vx_ot, Bool.or_eq_true] at hg
  rcases hg with hg | hg
  · exact va_tabs hg hvm h
  · exact word_at hW (good_of_word hg) h
/-- a list's words: the good ones out of the method's own list, the others by premises of their own -/
theorem vx_hat {args : Array Value} {s : State} {L B : List Cond} (h1 : ∀ w ∈ L.filter goodWord, w.before args s = true) (h2 : ∀ w ∈ L.filter (fun w => !goodWord w), w ∈ B) (h3 : ∀ w ∈ B, w.before args s = true) : ∀ w ∈ L, w.before args s = true := by
  intro w hw
  by_cases g : goodWord w = true
  · exact h1 w (List.mem_filter.mpr ⟨hw, g⟩)
  · refine h3 w (h2 w (List.mem_filter.mpr ⟨hw, ?_⟩))
    show (!goodWord w) = true
    cases hgw : goodWord w
    · rfl
    · exact absurd hgw g
theorem vx_c {args : Array Value} {s : State} {w : Cond} {B : List Cond} (h : w.before args s = true) (t : ∀ w ∈ B, w.before args s = true) : ∀ w' ∈ w :: B, w'.before args s = true := fun w' h' => (List.mem_cons.mp h').elim (fun e => by rw [e]; exact h) (t w')
theorem vx_n {args : Array Value} {s : State} : ∀ w ∈ ([] : List Cond), w.before args s = true := fun _ h => nomatch h
theorem vx_own {args : Array Value} {s : State} {L : List Cond} (h1 : ∀ w ∈ L.filter vx_no, w.before args s = true)
    (hU : (Cond.isRef (.static Jvm.Bundle.tN "UNASSIGNED_STACK" Jvm.Bundle.steD)).before args s = true) (hN : (Cond.isRef (.static Jvm.Bundle.tN "SUPPRESSED_SENTINEL" Jvm.Bundle.listD)).before args s = true)
    (lU : (Cond.laysStatic Jvm.Bundle.tN "UNASSIGNED_STACK" Jvm.Bundle.steD).before args s = true) (lN : (Cond.laysStatic Jvm.Bundle.tN "SUPPRESSED_SENTINEL" Jvm.Bundle.listD).before args s = true) : ∀ w ∈ L, w.before args s = true := by
  intro w hw
  by_cases e1 : w = .isRef (.static Jvm.Bundle.tN "UNASSIGNED_STACK" Jvm.Bundle.steD)
  · rw [e1]; exact hU
  · by_cases e2 : w = .isRef (.static Jvm.Bundle.tN "SUPPRESSED_SENTINEL" Jvm.Bundle.listD)
    · rw [e2]; exact hN
    · by_cases e3 : w = .laysStatic Jvm.Bundle.tN "UNASSIGNED_STACK" Jvm.Bundle.steD
      · rw [e3]; exact lU
      · by_cases e4 : w = .laysStatic Jvm.Bundle.tN "SUPPRESSED_SENTINEL" Jvm.Bundle.listD
        · rw [e4]; exact lN
        · exact h1 w (List.mem_filter.mpr ⟨hw, by unfold vx_no; rw [decide_eq_true e1, decide_eq_true e2, decide_eq_true e3, decide_eq_true e4]; rfl⟩)
/-- where a static field lies, its class's statics cell in H -/
def vx_L (C n d : String) (A : Nat → Prop) (U : State) (H : Heap) : Prop := ∃ (c : ClassId) (k : Class) (i : Nat) (f : Field) (a : Nat) (cell : Cell), U.vm.findClass C = some c ∧ U.fieldFound? C n d = some (c, k, i, f) ∧ f.isStatic = true ∧ k.statics = some a ∧ H[a]? = some cell ∧ cell.vm.isStatics = true ∧ cell.cls = c ∧ f.slot < cell.slots.size ∧ k.staticTypes[f.slot]? = some f.type ∧ ¬ A a
theorem vx_L.moved {C n d : String} {A : Nat → Prop} {u U : State} {H : Heap} (hvm : u.vm.Alike U.vm) (h : vx_L C n d A u H) : vx_L C n d A U H := by
  obtain ⟨c, k, i, f, a, cell, h1, h2, h3, h4, h5, h6, h7, h8, h9, h10⟩ := h
  obtain ⟨k', hi', he⟩ := State.fieldFound?_setVm hvm h2
  exact ⟨c, k', i, f, a, cell, by rw [hvm.findClass]; exact h1, hi', h3, by rw [he]; exact h4, h5, h6, h7, h8, by rw [he]; exact h9, h10⟩
theorem vx_L.kept {C n d : String} {A : Nat → Prop} {U : State} {H H1 : Heap} (h : vx_L C n d A U H) (hq : ∀ a : Nat, a < H.size → ¬ A a → H1[a]? = H[a]?) : vx_L C n d A U H1 := by
  obtain ⟨c, k, i, f, a, cell, h1, h2, h3, h4, h5, h6, h7, h8, h9, h10⟩ := h
  exact ⟨c, k, i, f, a, cell, h1, h2, h3, h4, by rw [hq a (Array.getElem?_eq_some_iff.mp h5).1 h10]; exact h5, h6, h7, h8, h9, h10⟩
theorem vx_L.narrow {C n d : String} {A B : Nat → Prop} {U : State} {H : Heap} (h : vx_L C n d A U H) (hAB : ∀ q, B q → A q) : vx_L C n d B U H := by
  obtain ⟨c, k, i, f, a, cell, h1, h2, h3, h4, h5, h6, h7, h8, h9, h10⟩ := h
  exact ⟨c, k, i, f, a, cell, h1, h2, h3, h4, h5, h6, h7, h8, h9, fun z => h10 (hAB _ z)⟩
theorem vx_L.word {C n d : String} {A : Nat → Prop} {s : State} {args : Array Value} (h : vx_L C n d A s s.heap) : (Cond.laysStatic C n d).before args s = true := by
  obtain ⟨c, k, i, f, a, cell, h1, h2, h3, h4, h5, h6, h7, h8, h9, -⟩ := h
  show (Cond.laysStatic C n d).holds args s none s [] = true
  exact Cond.laysStatic_of h1 h2 h3 h4 h5 h6 h7 h8 h9
/-- .. and what it holds: null or some reference -/
def vx_Zq (C n d : String) (A : Nat → Prop) (U : State) (H : Heap) : Prop := va_Zq C n d A U H ∧ vx_L C n d A U H
theorem vx_Zq.moved {C n d : String} {A : Nat → Prop} {u U : State} {H : Heap} (hvm : u.vm.Alike U.vm) (h : vx_Zq C n d A u H) : vx_Zq C n d A U H := ⟨va_Zq.moved hvm h.1, vx_L.moved hvm h.2⟩
theorem vx_Zq.kept {C n d : String} {A : Nat → Prop} {U : State} {H H1 : Heap} (h : vx_Zq C n d A U H) (hq : ∀ a : Nat, a < H.size → ¬ A a → H1[a]? = H[a]?) : vx_Zq C n d A U H1 := ⟨va_Zq.kept h.1 hq, vx_L.kept h.2 hq⟩
theorem vx_Zq.narrow {C n d : String} {A B : Nat → Prop} {U : State} {H : Heap} (h : vx_Zq C n d A U H) (hAB : ∀ q, B q → A q) : vx_Zq C n d B U H := ⟨va_Zq.narrow h.1 hAB, vx_L.narrow h.2 hAB⟩
theorem vx_Zqof {args : Array Value} {s : State} {C n d : String} {A : Nat → Prop} (hl : (Cond.laysStatic C n d).before args s = true) (hini : (Cond.initialized C).before args s = true) (h : (Cond.isRef (.static C n d)).before args s = true) (hA : ∀ a : Nat, a < s.heap.size → ¬ A a) : vx_Zq C n d A s s.heap := by
  refine ⟨va_Zqof hl hini h hA, ?_⟩
  obtain ⟨c, k, i, f, a, cell, h1, h2, h3, h4, h5, h6, h7, h8, h9⟩ := Cond.laysStatic_spec hl
  exact ⟨c, k, i, f, a, cell, h1, h2, h3, h4, h5, h6, h7, h8, h9, hA a (Array.getElem?_eq_some_iff.mp h5).1⟩
theorem vx_isRef {C n d : String} {v : Value} {A : Nat → Prop} {s : State} {args : Array Value} (h : va_Z C n d v A s s.heap) (hv : v.isRef = true) : (Cond.isRef (.static C n d)).before args s = true := by
  obtain ⟨cf, kf, fi, f, a, cell, h1, h2, h3, h4, h5, h6, h7, -⟩ := h
  have he : (Term.static C n d).eval args s none [] s = some v := by
    simp [Term.eval, State.fieldNamed?, h1, h2, h4, h5, h6, h7]
  simp only [Cond.before, Cond.holds, Cond.value, he]
  cases v <;> simp_all [Value.isRef]
theorem vx_isRefq {C n d : String} {A : Nat → Prop} {s : State} {args : Array Value} (h : va_Zq C n d A s s.heap) : (Cond.isRef (.static C n d)).before args s = true := by
  rcases h with h | ⟨t, h⟩
  · exact vx_isRef h rfl
  · exact vx_isRef h rfl
/-- the same frame, seen from here: as if the method were called anew in this heap -/
theorem vx_rebase {T : State} (X : Stand p l e R s m args below meth c T locs cells slots) {R' : Room} (hf : R'.frames ≤ R.frames) (hl : R'.locals ≤ R.locals) (hc : cells + R'.cells ≤ R.cells) (hs : slots + R'.slots ≤ R.slots) :
    Stand p l e R' ((T.setVm s.vm).setFrames (.invoking m args :: below)) m args below meth c T [] 0 0 := by
  have htop : (T.setVm s.vm).topJava?.isSome := X.here.top
  have hF : ((T.setVm s.vm).setFrames (.invoking m args :: below)).frames = .invoking m args :: below := State.frames_setFrames _ (State.cur_lt_of_top htop)
  obtain ⟨g₀, hg0⟩ := Option.isSome_iff_exists.mp htop
  obtain ⟨r, hr⟩ := State.topJava?_eq_some.mp hg0
  have hl9 : e.platform.stackLimits (T.setVm s.vm).me = e.platform.stackLimits s.me := X.limits
  have hb9 : (T.setVm s.vm).me.stackBytes = s.me.stackBytes := X.bytes
  refine ⟨X.admits, X.cas, X.clock, hF, ?_, X.hears, X.method, X.code, X.here, X.tail, X.warmed, ?_, ?_, ?_⟩
  · have h := X.room
    have hU : ((T.setVm s.vm).setFrames (.invoking m args :: below)).localsInUse = s.localsInUse := by
      rw [State.localsInUse_invoking hF (meth := meth) (c := c) X.method X.code, State.localsInUse_invoking X.frames X.method X.code]
    simp only [State.hasRoom, Bool.and_eq_true, decide_eq_true_eq] at h ⊢
    obtain ⟨⟨⟨⟨h1, h2, h3, h4, h5, h6⟩, h7⟩, h8⟩, h9⟩ := h
    rw [X.frames, List.length_cons] at h2 h3
    have q1 := X.heapSize
    have q2 := X.used
    simp only [hF, hU, List.length_cons, State.stackLimits_setFrames, State.stackBytes_setFrames, hl9, hb9]
    refine ⟨⟨⟨⟨by omega, by omega, by omega, by omega, by omega, h6⟩, ?_⟩, ?_⟩, X.book⟩
    · show T.heap.size + R'.cells ≤ e.platform.maxCells
      omega
    · show T.slotsUsed + R'.slots ≤ e.platform.maxSlots
      omega
  · rw [State.stackLimits_setFrames]; rfl
  · rw [State.stackBytes_setFrames]; rfl
  · refine ⟨?_, Nat.le_refl _, Nat.le_refl _, ?_, ?_, fun a c9 h9 => ⟨c9, h9, rfl, rfl, fun _ _ => rfl⟩⟩
    · obtain ⟨t, ht, -⟩ := State.frames_cons hr
      show T.setVm s.vm = { ((T.setVm s.vm).setFrames (.invoking m args :: below)).setFrames (T.setVm s.vm).frames with heap := T.heap, slotsUsed := T.slotsUsed }
      rw [State.setFrames_setFrames, State.setFrames_self ht]
      rfl
    · show T.slotsUsed = T.slotsUsed + ((T.heap.toList.drop T.heap.size).map (·.slots.size)).sum
      rw [List.drop_eq_nil_of_le (Nat.le_of_eq Array.length_toList)]
      rfl
    · show ((T.heap.toList.drop T.heap.size).map (·.slots.size)).sum ≤ 0
      rw [List.drop_eq_nil_of_le (Nat.le_of_eq Array.length_toList)]
      exact Nat.le_refl _
/-- 'throw new E("text")': new; dup; ldc; invokespecial; athrow -/
theorem vx_throwS {cc : ByteArray} {pc : Nat} (hexec : p.tables.exec = Jvm.exec) (hb : c.code = cc) (hl : l.stackTraces = false) {own cls text : String} {names : List String} {ik is ic mc ms sa : Nat} {A : Nat → Prop}
    (hown : s.vm.findClass own = some m.cls) (hcls : Jvm.Bundle.fit cls = true) (hnames : ∀ n ∈ names, Jvm.Bundle.fit n = true)
    (hk : (Cond.classLink own ik cls).before args s = true) (hini : (Cond.initialized cls).before args s = true) (hstr : vk_R own is text sa s) (hat : ∀ w ∈ vx_atS own ic cls names, w.before args s = true)
    (hgood : ∀ w ∈ Cond.classLink own ik cls :: Cond.initialized cls :: vx_atS own ic cls names, vx_ot w = true)
    (hU : vx_Zq Jvm.Bundle.tN "UNASSIGNED_STACK" Jvm.Bundle.steD A s s.heap) (hN : vx_Zq Jvm.Bundle.tN "SUPPRESSED_SENTINEL" Jvm.Bundle.listD A s s.heap) (hS : va_S A s.heap H locs) (hsize : ls.size = c.maxLocals)
    (d0 : decode cc pc = .ok (.new ik, 3)) (d3 : decode cc (pc + 3) = .ok (.dup, 1)) (d4 : decode cc (pc + 4) = .ok (.ldc is, 2)) (d6 : decode cc (pc + 6) = .ok (.invokespecial ic, 3)) (d9 : decode cc (pc + 9) = .ok (.athrow, 1))
    (hout : ∀ x ∈ c.exceptionTable.toList, covers x (pc + 9) = false)
    (hRframes : names.length + 3 < R.frames) (hRlocals : (rest.map fun v => v.category).sum + (13 * (names.length + 1) + 43) ≤ R.locals) (hRcells : cells + 1 ≤ R.cells) (hRslots : slots + 6 ≤ R.slots) (hlocks : meth.locks = false)
    (hx : ∀ t : State, s.vm.Alike t.vm → H.size ≤ t.heap.size → (∀ q : Nat, q < H.size → t.heap[q]? = H[q]?) → XC H.size cls s t)
    (hf : ∀ z ∈ locs, free z.base) (hc : cells + 1 ≤ mc) (hs : slots + 6 ≤ ms) :
    W p l e R s m args below meth c H locs cells slots (vx_MQ below Qc XC args s mc ms free) (F0 m pc ls rest) := by
  intro T hT X
  have htr : e.platform.stackTraces = false := (show e.platform.stackTraces = l.stackTraces by rw [X.admits.platform]).trans hl
  have Y := vx_rebase X (R' := { frames := R.frames, locals := R.locals, cells := 1, slots := 6 }) (Nat.le_refl _) (Nat.le_refl _) hRcells hRslots
  obtain ⟨s', hA⟩ : ∃ z, z = (T.setVm s.vm).setFrames (.invoking m args :: below) := ⟨_, rfl⟩
  rw [← hA] at Y
  have hvm : s'.vm = s.vm := by rw [hA]; rfl
  have hhp : s'.heap = H := by rw [hA]; exact hT
  have hW0 : s.WarmedH s'.vm := by rw [hvm]; exact State.WarmedH.refl s
  have hat' : ∀ w ∈ vx_atS own ic cls names, w.before args s' = true := fun w hw => vx_ot_at hW0 hvm.symm (hgood w (List.mem_cons_of_mem _ (List.mem_cons_of_mem _ hw))) (hat w hw)
  have hk' : (Cond.classLink own ik cls).before args s' = true := vx_ot_at hW0 hvm.symm (hgood _ List.mem_cons_self) hk
  have hini' : (Cond.initialized cls).before args s' = true := vx_ot_at hW0 hvm.symm (hgood _ (List.mem_cons_of_mem _ List.mem_cons_self)) hini
  have hU' : vx_Zq Jvm.Bundle.tN "UNASSIGNED_STACK" Jvm.Bundle.steD A s' s'.heap := by rw [hhp]; exact vx_Zq.moved hW0.alike (hU.kept hS.2.1)
  have hN' : vx_Zq Jvm.Bundle.tN "SUPPRESSED_SENTINEL" Jvm.Bundle.listD A s' s'.heap := by rw [hhp]; exact vx_Zq.moved hW0.alike (hN.kept hS.2.1)
  have h : ∀ w ∈ Jvm.Bundle.ownAtoms own ic cls names, w.before args s' = true := vx_own hat' (vx_isRefq hU'.1) (vx_isRefq hN'.1) hU'.2.word hN'.2.word
  have hown' : s'.vm.findClass own = some m.cls := by rw [hvm]; exact hown
  have hins : (Cond.instantiable cls 6).before args s' = true := h _ (by simp [Jvm.Bundle.ownAtoms])
  obtain ⟨vm₁, cX, kX, hfX, hkX, -, -, X₁, st1⟩ := Y.newCold hexec (own := own) (C := cls) (index := ik) (n := 6) hown' hk' hins hini'
    (g := F0 m pc ls rest) rfl (by rw [hb]; exact d0) (Nat.le_refl _) (Nat.le_refl _)
  generalize hT1 : (T.setVm vm₁).pushCell { cls := cX, slots := kX.instanceTypes.map defaultValue, vm := .none } = T1 at X₁ st1
  have hcat : (Value.ref T.heap.size).category = 1 := rfl
  have hcellA : T1.heap[T.heap.size]? = some (freshCell cX kX) := by rw [← hT1]; exact State.heap_pushCell_size _ _
  have d3' : decode c.code (pc + 3) = .ok (.dup, 1) := by rw [hb]; exact d3
  have d4' : decode c.code (pc + 4) = .ok (.ldc is, 2) := by rw [hb]; exact d4
  have hstr' : vk_R own is text sa s' := vk_R.warm hW0 hstr
  obtain ⟨U, hsteps, hrun, hend, hW, hsame, ce, hce, hO⟩ := X₁.ctorThrowS hexec htr (own := own) (cls := cls) (names := names) (ic := ic) hown' hcls hnames h (fun x hx => nomatch hx) hfX hkX hcellA (by rw [hhp, hT]; exact Nat.le_refl _) (msg := .ref sa) rfl
    (g := { method := m, pc := pc + 6, locals := ls, stack := .ref sa :: .ref T.heap.size :: .ref T.heap.size :: rest, locked := none }) rfl hsize rfl rfl (rest := rest) rfl
    (by rw [hb]; exact d6) (by rw [hb]; exact d9) hout hRframes (by simp only [List.map_cons, List.sum_cons, hcat]; omega) hlocks
  obtain ⟨f1, f2⟩ := vx_frame hsame
  rw [hhp] at f1 f2
  have hWs : s.WarmedH U.vm := State.WarmedH.trans hW0 hW
  have hcl : s.vm.findClass cls = some ce.cls := by
    have h9 := hO.cls
    rw [hvm] at h9
    exact h9
  have hall : s.sameButNew ({ U with vm := s.vm } : State) locs mc ms := by
    subst hA
    obtain ⟨e1, e2⟩ := hsame
    rw [State.setFrames_setFrames] at e1
    have h2 : (T.setVm s.vm).sameButNew ({ U with vm := s.vm } : State) [] (0 + 1) (0 + 6) := ⟨e1, e2⟩
    have h3 := X.same.trans h2
    rw [List.append_nil] at h3
    exact h3.mono hc hs
  refine ⟨U, ?_, .threw T.heap.size, hrun, hend, Or.inr ⟨T.heap.size, rfl, cls, ce, locs, (by rw [hT]; exact hx U hWs.alike f1 (fun q hq => f2 q hq (fun z hz => nomatch hz))), hce, hO.vm, hcl, hWs, hall, hf⟩⟩
  refine st1 _ ?_
  show Steps p.tables e below (T1.setTop { method := m, pc := pc + 3, locals := ls, stack := .ref T.heap.size :: rest, locked := none }) _
  jvm_step X₁.here [X₁.here.top, hexec, d3', Value.category]
  exact X₁.ldcString hexec (own := own) (text := text) (index := is) (a := sa) hown' hstr'.1 hstr'.2
    (g := { method := m, pc := pc + 4, locals := ls, stack := .ref T.heap.size :: .ref T.heap.size :: rest, locked := none }) rfl d4' _ hsteps
end Ends
section Bodies
variable {l : Launch}
theorem vx_ofW {y : MethodName} {ws ws' : List Cond} {rm : Room} {Pc : Array Value → State → Prop} {Qc : Array Value → State → Outcome → State → Prop} {XC : Addr → String → State → State → Prop} {mc ms : Nat} {free : Addr → Prop} {cc : ByteArray} {maxL : Nat} {ret : Option FieldType}
    (hy : plainName y.cls = true) (hw : ws = Cond.code y cc maxL ret :: ws')
    (body : ∀ p e s m args below meth c s₁, BodyLoose p l y (headSpec ws rm) cc maxL ret e s m args below meth c s₁ → c.maxLocals = maxL → (∀ x ∈ c.exceptionTable.toList, False) → Pc args s →
      W p l e (headSpec ws rm).room s m args below meth c s.heap [] 0 0 (vx_MQ below Qc XC args s mc ms free) (entryFrame m args maxL)) : vx_Met l y ws rm Pc Qc XC mc ms free := by
  refine MetFree.of_bodyS (code := cc) (maxLocals := maxL) (ret := ret) hy ?_ ?_
  · intro args s m h hn
    obtain ⟨meth, c, h1, h2, h3, h4, h5, h6, -, -⟩ := Cond.code_spec hn (atoms_spec (ws := ws) h _ (by rw [hw]; exact List.mem_cons_self))
    exact ⟨meth, c, h1, h2, h3, h4, h5, h6⟩
  · intro p e s m args below meth c s₁ B hml hP _
    have hh0 : s₁.heap = s.heap := by rw [B.state]; rfl
    have ht : ∀ x ∈ c.exceptionTable.toList, False := by
      obtain ⟨meth9, c9, h1, h2, -, -, -, -, h7, -⟩ := Cond.code_spec B.named (atoms_spec (ws := ws) B.pre _ (by rw [hw]; exact List.mem_cons_self))
      cases Option.some.inj (h1.symm.trans B.method)
      cases Option.some.inj (h2.symm.trans (Stand.of_body B).code)
      intro x hx
      rw [Array.isEmpty_iff.mp h7] at hx
      cases hx
    obtain ⟨t, a1, o, b1, b2, b3⟩ := body p e s m args below meth c s₁ B hml ht hP s₁ hh0 (Stand.of_body B)
    exact ⟨t, o, a1, b1, b2, b3⟩
/-- the table of a body with handlers -/
theorem vx_table {p : Program} {x y : MethodName} {S : Spec} {cc bytes : ByteArray} {maxL maxL' : Nat} {ret ret' : Option FieldType} {e : Env} {s s₁ : State} {m : MethodId} {args : Array Value} {below : List Frame} {meth : Method} {c : Code} {hh : List (Nat × Nat × Nat × Nat)}
    (B : BodyLoose p l y S cc maxL ret e s m args below meth c s₁) (h : (Cond.codeWith y bytes maxL' ret' hh).before args s = true) : c.exceptionTable.toList = tableOf hh := by
  obtain ⟨m9, meth9, c9, hn9, h1, h2, -, -, h6, -⟩ := Cond.codeWith_spec h
  cases Option.some.inj (hn9.symm.trans B.named)
  cases Option.some.inj (h1.symm.trans B.method)
  cases Option.some.inj (h2.symm.trans (Stand.of_body B).code)
  rw [← h6, table_eq]
end Bodies
end VXA

/-! ===== a static call of a method with an exception table ===== -/
section VXS
variable {p : Program} {l : Launch} {e : Env} {R : Room} {s : State} {m : MethodId} {args : Array Value} {below : List Frame} {meth : Method} {c : Code} {T : State} {H : Heap} {locs : List Loc} {cells slots : Nat}
abbrev vx_CSW (R : Room) (s : State) (args : Array Value) (own : String) (index : Nat) (y : MethodName) (bytes : ByteArray) (maxL : Nat) (ret : Option FieldType) (hh : List (Nat × Nat × Nat × Nat)) (ws : List Cond) (rm : Room) (mc ms n : Nat) : Prop :=
  (rm.cells = mc ∧ rm.slots = ms ∧ rm.frames + 1 ≤ R.frames ∧ 8 + (maxL + 11) + rm.locals ≤ R.locals ∧ (∀ w ∈ ws, ∀ (a' : Array Value) (U : State), s.WarmedH U.vm → w.before a' U = true) ∧ Cond.codeWith y bytes maxL ret hh ∈ ws) ∧
  (Cond.codeWith y bytes maxL ret hh).before args s = true ∧ (Cond.initialized y.cls).before args s = true ∧ (y.cls ≠ "java/lang/invoke/MethodHandle" ∧ y.cls ≠ "java/lang/invoke/VarHandle") ∧
  (∀ sig, parseMethodDescriptor y.desc = some sig → n = sig.parameters.length) ∧ (Cond.methodLink own index y).before args s = true ∧ (Cond.static y).before args s = true
theorem vx_cwSW {own : String} {index maxL mc ms : Nat} {y : MethodName} {bytes : ByteArray} {ret : Option FieldType} {hh : List (Nat × Nat × Nat × Nat)} {Ts ws ws' : List Cond} {rm : Room} (n : Nat) (ht : ∀ w ∈ Ts, w.before args s = true) (hT : GoodIn Ts (va_wsS own index y ws)) (hw : ws = Cond.codeWith y bytes maxL ret hh :: ws') (hrc : rm.cells = mc) (hrs : rm.slots = ms)
    (hd : y.cls ≠ "java/lang/invoke/MethodHandle" ∧ y.cls ≠ "java/lang/invoke/VarHandle" ∧ (parseMethodDescriptor y.desc).map (fun d => d.parameters.length) = some n) (hR : rm.frames + 1 ≤ R.frames ∧ 8 + (maxL + 11) + rm.locals ≤ R.locals) :
    vx_CSW R s args own index y bytes maxL ret hh ws rm mc ms n := by
  have ok : ∀ w ∈ va_wsS own index y ws, w.before args s = true := fun w h => ht w (hT w h).1
  have hG : GoodIn Ts ws := fun w h => hT w (by unfold va_wsS; exact List.mem_append_right _ h)
  have hc : Cond.codeWith y bytes maxL ret hh ∈ ws := by rw [hw]; exact List.mem_cons_self
  refine ⟨⟨hrc, hrs, hR.1, hR.2, pay_in ht hG, hc⟩, ht _ (hG _ hc).1, ok _ (by simp [va_wsS]), ⟨hd.1, hd.2.1⟩, fun sig h => ?_, ok _ (by simp [va_wsS]), ok _ (by simp [va_wsS])⟩
  have h2 := hd.2.2
  rw [h] at h2
  exact (Option.some.inj h2).symm
theorem vx_callSW (X : Stand p l e R s m args below meth c T locs cells slots) (hexec : p.tables.exec = Jvm.exec) {own : String} {index : Nat} {y : MethodName} {bytes : ByteArray} {maxL : Nat} {ret : Option FieldType} {hh : List (Nat × Nat × Nat × Nat)}
    (hown : s.vm.findClass own = some m.cls) (hlink : (Cond.methodLink own index y).before args s = true) (hstat : (Cond.static y).before args s = true) (hinit : (Cond.initialized y.cls).before args s = true)
    (hcode : (Cond.codeWith y bytes maxL ret hh).before args s = true) (hy : y.cls ≠ "java/lang/invoke/MethodHandle" ∧ y.cls ≠ "java/lang/invoke/VarHandle")
    {W9 : Nat} {Pre : Pt → Array Value → Prop} {Post : Pt → Array Value → Option Value → Pt → Prop} (hK : Back l R p e below s args y 3 W9 Pre Post)
    {g : JFrame} (hg : g.method = m) (hsize : g.locals.size = c.maxLocals) {argsL rest : List Value} (hlen : ∀ sig, parseMethodDescriptor y.desc = some sig → argsL.length = sig.parameters.length)
    (hstack : g.stack = argsL.reverse ++ rest) (hW : 2 * g.monitorRoom + (rest.map fun v => v.category).sum ≤ W9) (hdg : decode c.code g.pc = .ok (.invokestatic index, 3))
    (hpre : ∀ vm₁, s.WarmedH vm₁ → Pre ⟨T.setVm vm₁, locs, cells, slots⟩ argsL.toArray) :
    ∃ (v : Option Value) (vm₁ : Vm) (B : Pt), s.WarmedH vm₁ ∧ Stand p l e R s m args below meth c B.U B.locs B.cells B.slots ∧ Post ⟨T.setVm vm₁, locs, cells, slots⟩ argsL.toArray v B ∧
      ∀ target, Steps p.tables e below (B.U.setTop { g with pc := g.pc + 3, stack := v.toList ++ rest }) target → Steps p.tables e below (T.setTop g) target := by
  obtain ⟨mk, methM, cM, hnamed, hmethM, -, -, -, -, -, -, hsigM⟩ := Cond.codeWith_spec hcode
  have hstatic : methM.isStatic = true := Cond.static_spec hnamed hmethM hstat
  obtain ⟨kP, hkP, -⟩ := className_of_methodNamed hnamed
  have hinitP : kP.init = .initialized := Cond.initialized_spec (findClass_of_methodNamed hnamed) hkP hinit
  obtain ⟨vm₁, X₁, hstep₁⟩ := X.invokestatic hexec hown hlink hnamed hmethM hstatic hkP hinitP hy (g := g) hg (argsL := argsL) (rest := rest) (hlen _ hsigM) hstack hdg
  obtain ⟨v, B, X', hpost, hsteps⟩ := hK m meth c ⟨T.setVm vm₁, locs, cells, slots⟩ { g with stack := rest } (.invokestatic index) mk argsL.toArray X₁ hg hsize hdg hW (X₁.named hnamed) (hpre vm₁ X₁.warmed)
  exact ⟨v, vm₁, B, X₁.warmed, X', hpost, fun target h => hstep₁ _ fun acts => by rw [doInvoke_state]; exact hsteps.trans h⟩
theorem vx_runSW {y : MethodName} {bytes cc : ByteArray} {maxL nL mc ms n index : Nat} {ret : Option FieldType} {hh : List (Nat × Nat × Nat × Nat)} {ws : List Cond} {rm : Room} {Pc : Array Value → State → Prop} {Qc : Array Value → State → Outcome → State → Prop} {free : Addr → Prop} {Ts : List Cond} {own : String} {As rest : List Value} {g : JFrame}
    (S : CallFix p m c cc nL s args Ts own) (hM : Met l y ws rm Pc Qc mc ms free) (cw : vx_CSW R s args own index y bytes maxL ret hh ws rm mc ms n) (hp : PreS s H Pc As)
    (hg : g.method = m) (hn : As.length = n) (hsize : g.locals.size = nL) (hstack : g.stack = As.reverse ++ rest) (hW : 2 * g.monitorRoom + (rest.map fun v => v.category).sum ≤ 8) (hdg : decode cc g.pc = .ok (.invokestatic index, 3)) (hf : cells + mc ≤ R.cells ∧ slots + ms ≤ R.slots) :
    va_Run p l e R s m args below meth c H locs cells slots mc ms g rest (Qc As.toArray) (free) := by
  obtain ⟨⟨hrc, hrs, hfr, hlo, hws, hcw⟩, hcode, hini, hy, hlen, hl, hstt⟩ := cw
  have hK : Back l R p e below s args y 3 8 (PreOf R mc ms Pc) (PostOf Qc mc ms free) := va_backW (hh := hh) (bytes := bytes) (maxL := maxL) (ret := ret) hM hp.1 hrc hrs hfr hlo hws hcw (fun a' U hW => word_at hW (Or.inl (by first | rfl | simp [Cond.onTables, Cond.keeps, Cond.steady])) hini)
  obtain ⟨hx, hb, hml, ho, -⟩ := S
  intro T hT X
  obtain ⟨v, vm₁, ⟨U', l2, c2, s2⟩, hW₁, X', ⟨g', mk, t, L, e1, e2, hq, h1, hL, h2, h3⟩, st⟩ := vx_callSW X hx (hh := hh) (bytes := bytes) (maxL := maxL) (ret := ret) ho hl hstt hini hcode hy hK hg (hsize.trans hml.symm) (argsL := As) (rest := rest) (fun sig h => hn.trans (hlen sig h)) hstack hW (by rw [hb]; exact hdg)
    (fun vm₁ hW₁ => ⟨hf.1, hf.2, hp.2 (T.setVm vm₁) hT hW₁⟩)
  dsimp only [Pt.U, Pt.locs, Pt.cells, Pt.slots] at X' e1 e2 h1 h2 h3 st
  subst h1; subst h2; subst h3
  exact ⟨v, (T.setVm vm₁).calling g' mk As.toArray, t, U', L, hT, X', hL, e1, e2, hq, st⟩
/-- a thing of a world lies in the heap -/
theorem vx_lt {D : va_G} {cl : List vw_C} {ws : va_W} {H1 : Heap} (h : va_P D cl ws H1) {k : Nat} {q : Nat × va_E} (hk : ws[k]? = some q) : q.1 < H1.size := (h k q hk).lt
end VXS

/-! ===== methods with a table of their own: called by a name, returning or throwing ===== -/
section VXH
/-! vx_backW, vx_callVX, vx_callSX, vx_callVW, vx_runVW, vx_runVX, vx_runSX, vx_ofWH follow the same proofs as their sisters above (Free/Laws.lean, Shelf42/LK1.lean); vx_outP calls Shelf42/NT130.lean (outThrough). -/
section
variable {l : Launch} {R : Room} {p : Program} {e : Env} {below : List Frame} {s : State} {sargs : Array Value} {y : MethodName} {len W9 : Nat}
theorem vx_backW {ws : List Cond} {rm : Room} {Pc : Array Value → State → Prop} {Qc : Array Value → State → Outcome → State → Prop} {XC : Addr → String → State → State → Prop} {mc ms : Nat} {free : Addr → Prop} {bytes : ByteArray} {maxL : Nat} {ret : Option FieldType} {hh : List (Nat × Nat × Nat × Nat)}
    (hM : vx_Met l y ws rm Pc Qc XC mc ms free) (hblind : FrameBlind Pc) (hrc : rm.cells = mc) (hrs : rm.slots = ms)
    (hframes : rm.frames + 1 ≤ R.frames) (hlocals : W9 + (maxL + 11) + rm.locals ≤ R.locals)
    (hws : ∀ w ∈ ws, ∀ a' U, s.WarmedH U.vm → w.before a' U = true) (hcode : Cond.codeWith y bytes maxL ret hh ∈ ws) (hinit : ∀ a' U, s.WarmedH U.vm → (Cond.initialized y.cls).before a' U = true) :
    vx_Back l R p e below s sargs y len W9 (PreOf R mc ms Pc) (PostOf Qc mc ms free) (vx_Post XC mc ms free) := by
  intro m meth c A g ig mk a X hg hsize hdg hW hn hp
  have h1 : (headSpec ws rm).pre.before a A.U = true := atoms_intro fun w hw => hws w hw _ _ X.warmed
  have h2 : (Cond.codeWith y bytes maxL ret hh).before a A.U = true := hws _ hcode _ _ X.warmed
  have h3 : (Cond.initialized y.cls).before a A.U = true := hinit _ _ X.warmed
  have h4 : A.cells + (headSpec ws rm).room.cells ≤ R.cells := by rw [show (headSpec ws rm).room.cells = mc from hrc]; exact hp.1
  have h5 : A.slots + (headSpec ws rm).room.slots ≤ R.slots := by rw [show (headSpec ws rm).room.slots = ms from hrs]; exact hp.2.1
  have hPc : Pc a (A.U.calling g mk a) := hblind _ _ _ _ hp.2.2
  obtain ⟨U, Ls, c0, s0⟩ := A
  dsimp only [Pt.U, Pt.locs, Pt.cells, Pt.slots] at h1 h2 h3 h4 h5 X hn hPc ⊢
  obtain ⟨m9, methY, cY, hn9, hmY, hcY, -, hlY, -⟩ := Cond.codeWith_spec h2
  cases Option.some.inj (hn9.symm.trans hn)
  obtain ⟨kY, hkY, -⟩ := className_of_methodNamed hn
  have hinitY : kY.init = .initialized := Cond.initialized_spec (findClass_of_methodNamed hn) hkY h3
  have h : At U g.method c below := by rw [hg]; exact X.here
  have hlocals9 : W9 + (maxL + 11) + (headSpec ws rm).room.locals ≤ R.locals := hlocals
  have happ : (headSpec ws rm).appliesLoose y e.platform (U.calling g mk a) = true :=
    Spec.appliesLoose_calling (g := g) h hdg hn hkY hinitY
      (X.room_calling (g := g) (R' := (headSpec ws rm).room) hsize hmY hcY hframes (by rw [hlY]; omega) h4 h5) h1
  obtain ⟨mid, hmid⟩ := h.above
  have hfr : (U.setTop g).frames = (.java g :: mid) ++ below := by rw [State.frames_setTop' g h.top, hmid]; rfl
  obtain ⟨o, s₂, hsteps, -, hend, hq⟩ := Steps.callFree hM p X.admits X.cas X.clock (acts := []) hfr happ hPc trivial
  have hq' : vx_Q Qc XC mc ms free a (U.calling g mk a) o s₂ := hq
  rw [State.frames_setTop' g h.top] at hend
  obtain ⟨g₀, hg0⟩ := Option.isSome_iff_exists.mp h.top
  obtain ⟨r, hr⟩ := State.topJava?_eq_some.mp hg0
  have hr' : (({ U with heap := s₂.heap, slotsUsed := s₂.slotsUsed } : State).setVm s₂.vm).frames = .java g₀ :: r := hr
  rcases hq' with ⟨hqc, L, hfe, hL⟩ | ⟨q, rfl, E, ce, L, hx, hce, hcv, hcl, hW₂, hsm, hL⟩
  · obtain ⟨⟨v, rfl⟩, hW₂, e2, q2, q3, q4, q5, q6⟩ := id hfe
    have e3 : s₂ = ({ (U.calling g mk a).setFrames s₂.frames with heap := s₂.heap, slotsUsed := s₂.slotsUsed } : State).setVm s₂.vm := by
      have : s₂ = ({ s₂ with vm := (U.calling g mk a).vm } : State).setVm s₂.vm := rfl
      rw [e2] at this
      exact this
    obtain ⟨c₂, i₂, len₂, hc₂, hd₂, hf₂⟩ := hend
    have hW' : U.WarmedH s₂.vm := hW₂
    have hcc : c₂ = c := by
      have h1 : s₂.code? g.method = U.code? g.method := by
        rw [State.code?_eq, State.code?_eq, hW'.alike.method?]
      exact Option.some.inj (hc₂.symm.trans (h1.trans h.code))
    subst hcc
    have hlen : len₂ = len := by rw [hdg] at hd₂; cases hd₂; rfl
    subst hlen
    have hs₂ : s₂ = (({ U with heap := s₂.heap, slotsUsed := s₂.slotsUsed } : State).setVm s₂.vm).setTop { g with pc := g.pc + len₂, stack := v.toList ++ g.stack } := by
      refine e3.trans ?_
      rw [hf₂, State.calling_eq h.top, State.setFrames_setFrames, State.setTop_of_frames _ hr', hr]
      rfl
    have hsame : U.sameButNew ({ U with heap := s₂.heap, slotsUsed := s₂.slotsUsed } : State) L mc ms := by
      refine ⟨?_, q2, q3, q4, q5, q6⟩
      obtain ⟨t, ht, -⟩ := State.frames_cons hr
      show ({ U with heap := s₂.heap, slotsUsed := s₂.slotsUsed } : State) = { U.setFrames U.frames with heap := s₂.heap, slotsUsed := s₂.slotsUsed }
      rw [State.setFrames_self ht]
    subst hg
    refine Or.inl ⟨v, ⟨(({ U with heap := s₂.heap, slotsUsed := s₂.slotsUsed } : State).setVm s₂.vm), Ls ++ L, c0 + mc, s0 + ms⟩,
      ⟨X.admits, X.cas, X.clock, X.frames, X.room, X.hears, X.method, X.code, (X.here.setHeapUsed s₂.heap s₂.slotsUsed).setVm hW'.alike, X.tail, State.WarmedH.trans X.warmed hW', X.limits, X.bytes, X.same.trans (hsame.setVm s.vm)⟩,
      ⟨g, mk, s₂, L, rfl, rfl, hqc, rfl, hL, rfl, rfl⟩, ?_⟩
    show Steps p.tables e below _ ((({ U with heap := s₂.heap, slotsUsed := s₂.slotsUsed } : State).setVm s₂.vm).setTop { g with pc := g.pc + len₂, stack := v.toList ++ g.stack })
    rw [← hs₂]
    exact hsteps
  · obtain ⟨e2, q2, q3, q4, q5, q6⟩ := id hsm
    have e3 : s₂ = ({ (U.calling g mk a).setFrames s₂.frames with heap := s₂.heap, slotsUsed := s₂.slotsUsed } : State).setVm s₂.vm := by
      have : s₂ = ({ s₂ with vm := (U.calling g mk a).vm } : State).setVm s₂.vm := rfl
      rw [e2] at this
      exact this
    have hf₂ : s₂.frames = .throwing q :: .java g :: U.frames.tail := hend
    have hW' : U.WarmedH s₂.vm := hW₂
    have hs₂ : s₂ = ((({ U with heap := s₂.heap, slotsUsed := s₂.slotsUsed } : State).setVm s₂.vm).setTop g).pushFrame (.throwing q) := by
      refine e3.trans ?_
      rw [hf₂, State.calling_eq h.top, State.setFrames_setFrames, State.pushFrame, State.frames_setTop _ hr', State.setTop_of_frames _ hr', State.setFrames_setFrames, hr]
      rfl
    have hsame : U.sameButNew ({ U with heap := s₂.heap, slotsUsed := s₂.slotsUsed } : State) L mc ms := by
      refine ⟨?_, q2, q3, q4, q5, q6⟩
      obtain ⟨t, ht, -⟩ := State.frames_cons hr
      show ({ U with heap := s₂.heap, slotsUsed := s₂.slotsUsed } : State) = { U.setFrames U.frames with heap := s₂.heap, slotsUsed := s₂.slotsUsed }
      rw [State.setFrames_self ht]
    subst hg
    refine Or.inr ⟨q, ⟨(({ U with heap := s₂.heap, slotsUsed := s₂.slotsUsed } : State).setVm s₂.vm), Ls ++ L, c0 + mc, s0 + ms⟩,
      ⟨X.admits, X.cas, X.clock, X.frames, X.room, X.hears, X.method, X.code, (X.here.setHeapUsed s₂.heap s₂.slotsUsed).setVm hW'.alike, X.tail, State.WarmedH.trans X.warmed hW', X.limits, X.bytes, X.same.trans (hsame.setVm s.vm)⟩,
      ⟨g, mk, s₂, L, E, ce, rfl, rfl, hx, hce, hcv, hcl, rfl, hL, rfl, rfl⟩, ?_⟩
    show Steps p.tables e below _ (((({ U with heap := s₂.heap, slotsUsed := s₂.slotsUsed } : State).setVm s₂.vm).setTop g).pushFrame (.throwing q))
    rw [← hs₂]
    exact hsteps
end
variable {p : Program} {l : Launch} {e : Env} {R : Room} {s : State} {m : MethodId} {args : Array Value} {below : List Frame} {meth : Method} {c : Code} {T : State} {H : Heap} {locs : List Loc} {cells slots : Nat}
theorem vx_callVX (X : Stand p l e R s m args below meth c T locs cells slots) (hexec : p.tables.exec = Jvm.exec) {own C : String} {index : Nat} {y : MethodName} {bytes : ByteArray} {maxL : Nat} {ret : Option FieldType} {hh : List (Nat × Nat × Nat × Nat)}
    (hown : s.vm.findClass own = some m.cls) (hlink : (Cond.methodLink own index y).before args s = true) (hinst : (Cond.instanceMethod y).before args s = true) (hsel : (Cond.selects C y y).before args s = true)
    (hcode : (Cond.codeWith y bytes maxL ret hh).before args s = true) (hy : y.cls ≠ "java/lang/invoke/MethodHandle" ∧ y.cls ≠ "java/lang/invoke/VarHandle")
    {W9 : Nat} {Pre : Pt → Array Value → Prop} {Post : Pt → Array Value → Option Value → Pt → Prop} {PostX : Pt → Array Value → Addr → Pt → Prop} (hK : vx_Back l R p e below s args y 3 W9 Pre Post PostX)
    {b : Addr} {cellB : Cell} (hcell : T.heap[b]? = some cellB) (hobj : cellB.vm.isStatics = false) (hcls : s.vm.findClass C = some cellB.cls)
    {g : JFrame} (hg : g.method = m) (hsize : g.locals.size = c.maxLocals) {argsL rest : List Value} (hlen : ∀ sig, parseMethodDescriptor y.desc = some sig → argsL.length = sig.parameters.length)
    (hstack : g.stack = argsL.reverse ++ .ref b :: rest) (hW : 2 * g.monitorRoom + (rest.map fun v => v.category).sum ≤ W9) (hdg : decode c.code g.pc = .ok (.invokevirtual index, 3))
    (hpre : ∀ vm₁, s.WarmedH vm₁ → Pre ⟨T.setVm vm₁, locs, cells, slots⟩ (Value.ref b :: argsL).toArray) :
    (∃ (v : Option Value) (vm₁ : Vm) (B : Pt), s.WarmedH vm₁ ∧ Stand p l e R s m args below meth c B.U B.locs B.cells B.slots ∧ Post ⟨T.setVm vm₁, locs, cells, slots⟩ (Value.ref b :: argsL).toArray v B ∧
      ∀ target, Steps p.tables e below (B.U.setTop { g with pc := g.pc + 3, stack := v.toList ++ rest }) target → Steps p.tables e below (T.setTop g) target) ∨
    (∃ (q : Addr) (vm₁ : Vm) (B : Pt), s.WarmedH vm₁ ∧ Stand p l e R s m args below meth c B.U B.locs B.cells B.slots ∧ PostX ⟨T.setVm vm₁, locs, cells, slots⟩ (Value.ref b :: argsL).toArray q B ∧
      Steps p.tables e below (T.setTop g) ((B.U.setTop { g with stack := rest }).pushFrame (.throwing q))) := by
  obtain ⟨mk, methM, hnamed, hmethM, hstM, habM⟩ := Cond.instanceMethod_spec hinst
  obtain ⟨m8, methM', cM, hn8, hmethM', -, -, -, -, -, -, hsigM⟩ := Cond.codeWith_spec hcode
  cases Option.some.inj (hn8.symm.trans hnamed)
  cases hmethM.symm.trans hmethM'
  obtain ⟨c2, r2, m2, q1, q2, q3, q4, kP, hkP, hkPi⟩ := Cond.selects_spec hsel
  cases hcls.symm.trans q1
  cases (State.methodFound?_of_named hnamed hy).symm.trans q2
  cases hnamed.symm.trans q3
  have hselP : selectMethod e.platform s.vm cellB.cls mk = .method mk := by rw [Launch.admits_selectMethod X.admits]; exact q4
  obtain ⟨vm₁, X₁, hstep₁⟩ := X.invokevirtual hexec hown hlink hnamed hmethM hstM hkP hkPi hy (a := b) (cell := cellB) hcell
    (fun z h => by rw [h] at hobj; cases hobj) hselP hmethM habM hkP hkPi (g := g) hg (argsL := argsL) (rest := rest) (hlen _ hsigM) hstack hdg
  rcases hK m meth c ⟨T.setVm vm₁, locs, cells, slots⟩ { g with stack := rest } (.invokevirtual index) mk (Value.ref b :: argsL).toArray X₁ hg hsize hdg hW (X₁.named hnamed) (hpre vm₁ X₁.warmed) with ⟨v, B, X', hpost, hsteps⟩ | ⟨q, B, X', hpost, hsteps⟩
  · exact Or.inl ⟨v, vm₁, B, X₁.warmed, X', hpost, fun target h => hstep₁ _ fun acts => by rw [doInvoke_state]; exact hsteps.trans h⟩
  · exact Or.inr ⟨q, vm₁, B, X₁.warmed, X', hpost, hstep₁ _ fun acts => by rw [doInvoke_state]; exact hsteps⟩
theorem vx_callSX (X : Stand p l e R s m args below meth c T locs cells slots) (hexec : p.tables.exec = Jvm.exec) {own : String} {index : Nat} {y : MethodName} {bytes : ByteArray} {maxL : Nat} {ret : Option FieldType} {hh : List (Nat × Nat × Nat × Nat)}
    (hown : s.vm.findClass own = some m.cls) (hlink : (Cond.methodLink own index y).before args s = true) (hstat : (Cond.static y).before args s = true) (hinit : (Cond.initialized y.cls).before args s = true)
    (hcode : (Cond.codeWith y bytes maxL ret hh).before args s = true) (hy : y.cls ≠ "java/lang/invoke/MethodHandle" ∧ y.cls ≠ "java/lang/invoke/VarHandle")
    {W9 : Nat} {Pre : Pt → Array Value → Prop} {Post : Pt → Array Value → Option Value → Pt → Prop} {PostX : Pt → Array Value → Addr → Pt → Prop} (hK : vx_Back l R p e below s args y 3 W9 Pre Post PostX)
    {g : JFrame} (hg : g.method = m) (hsize : g.locals.size = c.maxLocals) {argsL rest : List Value} (hlen : ∀ sig, parseMethodDescriptor y.desc = some sig → argsL.length = sig.parameters.length)
    (hstack : g.stack = argsL.reverse ++ rest) (hW : 2 * g.monitorRoom + (rest.map fun v => v.category).sum ≤ W9) (hdg : decode c.code g.pc = .ok (.invokestatic index, 3))
    (hpre : ∀ vm₁, s.WarmedH vm₁ → Pre ⟨T.setVm vm₁, locs, cells, slots⟩ argsL.toArray) :
    (∃ (v : Option Value) (vm₁ : Vm) (B : Pt), s.WarmedH vm₁ ∧ Stand p l e R s m args below meth c B.U B.locs B.cells B.slots ∧ Post ⟨T.setVm vm₁, locs, cells, slots⟩ argsL.toArray v B ∧
      ∀ target, Steps p.tables e below (B.U.setTop { g with pc := g.pc + 3, stack := v.toList ++ rest }) target → Steps p.tables e below (T.setTop g) target) ∨
    (∃ (q : Addr) (vm₁ : Vm) (B : Pt), s.WarmedH vm₁ ∧ Stand p l e R s m args below meth c B.U B.locs B.cells B.slots ∧ PostX ⟨T.setVm vm₁, locs, cells, slots⟩ argsL.toArray q B ∧
      Steps p.tables e below (T.setTop g) ((B.U.setTop { g with stack := rest }).pushFrame (.throwing q))) := by
  obtain ⟨mk, methM, cM, hnamed, hmethM, -, -, -, -, -, -, hsigM⟩ := Cond.codeWith_spec hcode
  have hstatic : methM.isStatic = true := Cond.static_spec hnamed hmethM hstat
  obtain ⟨kP, hkP, -⟩ := className_of_methodNamed hnamed
  have hinitP : kP.init = .initialized := Cond.initialized_spec (findClass_of_methodNamed hnamed) hkP hinit
  obtain ⟨vm₁, X₁, hstep₁⟩ := X.invokestatic hexec hown hlink hnamed hmethM hstatic hkP hinitP hy (g := g) hg (argsL := argsL) (rest := rest) (hlen _ hsigM) hstack hdg
  rcases hK m meth c ⟨T.setVm vm₁, locs, cells, slots⟩ { g with stack := rest } (.invokestatic index) mk argsL.toArray X₁ hg hsize hdg hW (X₁.named hnamed) (hpre vm₁ X₁.warmed) with ⟨v, B, X', hpost, hsteps⟩ | ⟨q, B, X', hpost, hsteps⟩
  · exact Or.inl ⟨v, vm₁, B, X₁.warmed, X', hpost, fun target h => hstep₁ _ fun acts => by rw [doInvoke_state]; exact hsteps.trans h⟩
  · exact Or.inr ⟨q, vm₁, B, X₁.warmed, X', hpost, hstep₁ _ fun acts => by rw [doInvoke_state]; exact hsteps⟩
theorem vx_callVW (X : Stand p l e R s m args below meth c T locs cells slots) (hexec : p.tables.exec = Jvm.exec) {own C : String} {index : Nat} {y : MethodName} {bytes : ByteArray} {maxL : Nat} {ret : Option FieldType} {hh : List (Nat × Nat × Nat × Nat)}
    (hown : s.vm.findClass own = some m.cls) (hlink : (Cond.methodLink own index y).before args s = true) (hinst : (Cond.instanceMethod y).before args s = true) (hsel : (Cond.selects C y y).before args s = true)
    (hcode : (Cond.codeWith y bytes maxL ret hh).before args s = true) (hy : y.cls ≠ "java/lang/invoke/MethodHandle" ∧ y.cls ≠ "java/lang/invoke/VarHandle")
    {W9 : Nat} {Pre : Pt → Array Value → Prop} {Post : Pt → Array Value → Option Value → Pt → Prop} (hK : Back l R p e below s args y 3 W9 Pre Post)
    {b : Addr} {cellB : Cell} (hcell : T.heap[b]? = some cellB) (hobj : cellB.vm.isStatics = false) (hcls : s.vm.findClass C = some cellB.cls)
    {g : JFrame} (hg : g.method = m) (hsize : g.locals.size = c.maxLocals) {argsL rest : List Value} (hlen : ∀ sig, parseMethodDescriptor y.desc = some sig → argsL.length = sig.parameters.length)
    (hstack : g.stack = argsL.reverse ++ .ref b :: rest) (hW : 2 * g.monitorRoom + (rest.map fun v => v.category).sum ≤ W9) (hdg : decode c.code g.pc = .ok (.invokevirtual index, 3))
    (hpre : ∀ vm₁, s.WarmedH vm₁ → Pre ⟨T.setVm vm₁, locs, cells, slots⟩ (Value.ref b :: argsL).toArray) :
    ∃ (v : Option Value) (vm₁ : Vm) (B : Pt), s.WarmedH vm₁ ∧ Stand p l e R s m args below meth c B.U B.locs B.cells B.slots ∧ Post ⟨T.setVm vm₁, locs, cells, slots⟩ (Value.ref b :: argsL).toArray v B ∧
      ∀ target, Steps p.tables e below (B.U.setTop { g with pc := g.pc + 3, stack := v.toList ++ rest }) target → Steps p.tables e below (T.setTop g) target := by
  obtain ⟨mk, methM, hnamed, hmethM, hstM, habM⟩ := Cond.instanceMethod_spec hinst
  obtain ⟨m8, methM', cM, hn8, hmethM', -, -, -, -, -, -, hsigM⟩ := Cond.codeWith_spec hcode
  cases Option.some.inj (hn8.symm.trans hnamed)
  cases hmethM.symm.trans hmethM'
  obtain ⟨c2, r2, m2, q1, q2, q3, q4, kP, hkP, hkPi⟩ := Cond.selects_spec hsel
  cases hcls.symm.trans q1
  cases (State.methodFound?_of_named hnamed hy).symm.trans q2
  cases hnamed.symm.trans q3
  have hselP : selectMethod e.platform s.vm cellB.cls mk = .method mk := by rw [Launch.admits_selectMethod X.admits]; exact q4
  obtain ⟨vm₁, X₁, hstep₁⟩ := X.invokevirtual hexec hown hlink hnamed hmethM hstM hkP hkPi hy (a := b) (cell := cellB) hcell
    (fun z h => by rw [h] at hobj; cases hobj) hselP hmethM habM hkP hkPi (g := g) hg (argsL := argsL) (rest := rest) (hlen _ hsigM) hstack hdg
  obtain ⟨v, B, X', hpost, hsteps⟩ := hK m meth c ⟨T.setVm vm₁, locs, cells, slots⟩ { g with stack := rest } (.invokevirtual index) mk (Value.ref b :: argsL).toArray X₁ hg hsize hdg hW (X₁.named hnamed) (hpre vm₁ X₁.warmed)
  exact ⟨v, vm₁, B, X₁.warmed, X', hpost, fun target h => hstep₁ _ fun acts => by rw [doInvoke_state]; exact hsteps.trans h⟩
abbrev vx_CVW (R : Room) (s : State) (args : Array Value) (own C : String) (index : Nat) (y : MethodName) (bytes : ByteArray) (maxL : Nat) (ret : Option FieldType) (hh : List (Nat × Nat × Nat × Nat)) (ws : List Cond) (rm : Room) (mc ms n : Nat) : Prop :=
  (rm.cells = mc ∧ rm.slots = ms ∧ rm.frames + 1 ≤ R.frames ∧ 8 + (maxL + 11) + rm.locals ≤ R.locals ∧ (∀ w ∈ ws, ∀ (a' : Array Value) (U : State), s.WarmedH U.vm → w.before a' U = true) ∧ Cond.codeWith y bytes maxL ret hh ∈ ws) ∧
  (Cond.codeWith y bytes maxL ret hh).before args s = true ∧ (Cond.initialized y.cls).before args s = true ∧ (y.cls ≠ "java/lang/invoke/MethodHandle" ∧ y.cls ≠ "java/lang/invoke/VarHandle") ∧
  (∀ sig, parseMethodDescriptor y.desc = some sig → n = sig.parameters.length) ∧ (Cond.methodLink own index y).before args s = true ∧ (Cond.instanceMethod y).before args s = true ∧ (Cond.selects C y y).before args s = true
theorem vx_cwVW {own C : String} {index maxL mc ms : Nat} {y : MethodName} {bytes : ByteArray} {ret : Option FieldType} {hh : List (Nat × Nat × Nat × Nat)} {Ts ws ws' : List Cond} {rm : Room} (n : Nat) (ht : ∀ w ∈ Ts, w.before args s = true) (hT : GoodIn Ts (wsV own index C y ws)) (hw : ws = Cond.codeWith y bytes maxL ret hh :: ws') (hrc : rm.cells = mc) (hrs : rm.slots = ms)
    (hd : y.cls = C ∧ y.cls ≠ "java/lang/invoke/MethodHandle" ∧ y.cls ≠ "java/lang/invoke/VarHandle" ∧ (parseMethodDescriptor y.desc).map (fun d => d.parameters.length) = some n) (hR : rm.frames + 1 ≤ R.frames ∧ 8 + (maxL + 11) + rm.locals ≤ R.locals) :
    vx_CVW R s args own C index y bytes maxL ret hh ws rm mc ms n := by
  obtain ⟨hC, hd⟩ := hd
  subst hC
  have ok : ∀ w ∈ wsV own index y.cls y ws, w.before args s = true := fun w h => ht w (hT w h).1
  have hG : GoodIn Ts ws := fun w h => hT w (by unfold wsV; exact List.mem_append_right _ h)
  have hc : Cond.codeWith y bytes maxL ret hh ∈ ws := by rw [hw]; exact List.mem_cons_self
  refine ⟨⟨hrc, hrs, hR.1, hR.2, pay_in ht hG, hc⟩, ht _ (hG _ hc).1, ok _ (by simp [wsV]), ⟨hd.1, hd.2.1⟩, fun sig h => ?_, ok _ (by simp [wsV]), ok _ (by simp [wsV]), ok _ (by simp [wsV])⟩
  have h2 := hd.2.2
  rw [h] at h2
  exact (Option.some.inj h2).symm
theorem vx_runVW {y : MethodName} {bytes cc : ByteArray} {maxL nL mc ms n index : Nat} {ret : Option FieldType} {hh : List (Nat × Nat × Nat × Nat)} {ws : List Cond} {rm : Room} {Pc : Array Value → State → Prop} {Qc : Array Value → State → Outcome → State → Prop} {free : Addr → Prop} {Ts : List Cond} {own C : String} {b : Addr} {As rest : List Value} {g : JFrame}
    (S : CallFix p m c cc nL s args Ts own) (hM : Met l y ws rm Pc Qc mc ms free) (cw : vx_CVW R s args own C index y bytes maxL ret hh ws rm mc ms n) (hp : PreV s H C b Pc As)
    (hg : g.method = m) (hn : As.length = n) (hsize : g.locals.size = nL) (hstack : g.stack = As.reverse ++ .ref b :: rest) (hW : 2 * g.monitorRoom + (rest.map fun v => v.category).sum ≤ 8) (hdg : decode cc g.pc = .ok (.invokevirtual index, 3)) (hf : cells + mc ≤ R.cells ∧ slots + ms ≤ R.slots) :
    va_Run p l e R s m args below meth c H locs cells slots mc ms g rest (Qc (Value.ref b :: As).toArray) free := by
  obtain ⟨⟨hrc, hrs, hfr, hlo, hws, hcw⟩, hcode, hini, hy, hlen, hl, hin, hse⟩ := cw
  have hK : Back l R p e below s args y 3 8 (PreOf R mc ms Pc) (PostOf Qc mc ms free) := va_backW (hh := hh) (bytes := bytes) (maxL := maxL) (ret := ret) hM hp.1 hrc hrs hfr hlo hws hcw (fun a' U hW => word_at hW (Or.inl (by first | rfl | simp [Cond.onTables, Cond.keeps, Cond.steady])) hini)
  obtain ⟨hx, hb, hml, ho, -⟩ := S
  obtain ⟨-, ⟨cellB, hcB, hoB, hclB⟩, hPc⟩ := hp
  intro T hT X
  obtain ⟨v, vm₁, ⟨U', l2, c2, s2⟩, hW₁, X', ⟨g', mk, t, L, e1, e2, hq, h1, hL, h2, h3⟩, st⟩ := vx_callVW X hx (C := C) (hh := hh) (bytes := bytes) (maxL := maxL) (ret := ret) ho hl hin hse hcode hy hK (by rw [hT]; exact hcB) hoB hclB hg (hsize.trans hml.symm) (argsL := As) (rest := rest) (fun sig h => hn.trans (hlen sig h)) hstack hW (by rw [hb]; exact hdg)
    (fun vm₁ hW₁ => ⟨hf.1, hf.2, hPc (T.setVm vm₁) hT hW₁⟩)
  dsimp only [Pt.U, Pt.locs, Pt.cells, Pt.slots] at X' e1 e2 h1 h2 h3 st
  subst h1; subst h2; subst h3
  exact ⟨v, (T.setVm vm₁).calling g' mk (Value.ref b :: As).toArray, t, U', L, hT, X', hL, e1, e2, hq, st⟩
section
variable {y : MethodName} {bytes cc : ByteArray} {maxL nL mc ms n index : Nat} {ret : Option FieldType} {ws : List Cond} {rm : Room} {Pc : Array Value → State → Prop} {Qc : Array Value → State → Outcome → State → Prop} {XC : Addr → String → State → State → Prop} {free : Addr → Prop} {Ts : List Cond} {own C : String} {b : Addr} {As rest : List Value} {g : JFrame}
theorem vx_runVX {hh : List (Nat × Nat × Nat × Nat)} (S : CallFix p m c cc nL s args Ts own) (hM : vx_Met l y ws rm Pc Qc XC mc ms free) (cw : vx_CVW R s args own C index y bytes maxL ret hh ws rm mc ms n) (hp : PreV s H C b Pc As)
    (hg : g.method = m) (hn : As.length = n) (hsize : g.locals.size = nL) (hstack : g.stack = As.reverse ++ .ref b :: rest) (hW : 2 * g.monitorRoom + (rest.map fun v => v.category).sum ≤ 8) (hdg : decode cc g.pc = .ok (.invokevirtual index, 3)) (hf : cells + mc ≤ R.cells ∧ slots + ms ≤ R.slots) :
    vx_Run p l e R s m args below meth c H locs cells slots mc ms g rest (Qc (Value.ref b :: As).toArray) XC free := by
  obtain ⟨⟨hrc, hrs, hfr, hlo, hws, hcw⟩, hcode, hini, hy, hlen, hl, hin, hse⟩ := cw
  have hK : vx_Back l R p e below s args y 3 8 (PreOf R mc ms Pc) (PostOf Qc mc ms free) (vx_Post XC mc ms free) := vx_backW (hh := hh) (bytes := bytes) (maxL := maxL) (ret := ret) hM hp.1 hrc hrs hfr hlo hws hcw (fun a' U hW => word_at hW (Or.inl (by first | rfl | simp [Cond.onTables, Cond.keeps, Cond.steady])) hini)
  obtain ⟨hx, hb, hml, ho, -⟩ := S
  obtain ⟨-, ⟨cellB, hcB, hoB, hclB⟩, hPc⟩ := hp
  intro T hT X
  rcases vx_callVX X hx (C := C) (hh := hh) (bytes := bytes) (maxL := maxL) (ret := ret) ho hl hin hse hcode hy hK (by rw [hT]; exact hcB) hoB hclB hg (hsize.trans hml.symm) (argsL := As) (rest := rest) (fun sig h => hn.trans (hlen sig h)) hstack hW (by rw [hb]; exact hdg)
    (fun vm₁ hW₁ => ⟨hf.1, hf.2, hPc (T.setVm vm₁) hT hW₁⟩) with ⟨v, vm₁, ⟨U', l2, c2, s2⟩, hW₁, X', ⟨g', mk, t, L, e1, e2, hq, h1, hL, h2, h3⟩, st⟩ | ⟨q, vm₁, ⟨U', l2, c2, s2⟩, hW₁, X', ⟨g', mk, t, L, E, ce, e1, e2, hq, hce, hcv, hcl, h1, hL, h2, h3⟩, st⟩
  · dsimp only [Pt.U, Pt.locs, Pt.cells, Pt.slots] at X' e1 e2 h1 h2 h3 st
    subst h1; subst h2; subst h3
    exact Or.inl ⟨v, (T.setVm vm₁).calling g' mk (Value.ref b :: As).toArray, t, U', L, hT, X', hL, e1, e2, hq, st⟩
  · dsimp only [Pt.U, Pt.locs, Pt.cells, Pt.slots] at X' e1 e2 h1 h2 h3 st hcl
    subst h1; subst h2; subst h3
    exact Or.inr ⟨q, (T.setVm vm₁).calling g' mk (Value.ref b :: As).toArray, t, U', L, E, ce, hT, X', hL, e1, e2, hq, hce, hcv, vx_cls hW₁ hcl, st⟩
theorem vx_runSX {hh : List (Nat × Nat × Nat × Nat)} (S : CallFix p m c cc nL s args Ts own) (hM : vx_Met l y ws rm Pc Qc XC mc ms free) (cw : vx_CSW R s args own index y bytes maxL ret hh ws rm mc ms n) (hp : PreS s H Pc As)
    (hg : g.method = m) (hn : As.length = n) (hsize : g.locals.size = nL) (hstack : g.stack = As.reverse ++ rest) (hW : 2 * g.monitorRoom + (rest.map fun v => v.category).sum ≤ 8) (hdg : decode cc g.pc = .ok (.invokestatic index, 3)) (hf : cells + mc ≤ R.cells ∧ slots + ms ≤ R.slots) :
    vx_Run p l e R s m args below meth c H locs cells slots mc ms g rest (Qc As.toArray) XC free := by
  obtain ⟨⟨hrc, hrs, hfr, hlo, hws, hcw⟩, hcode, hini, hy, hlen, hl, hstt⟩ := cw
  have hK : vx_Back l R p e below s args y 3 8 (PreOf R mc ms Pc) (PostOf Qc mc ms free) (vx_Post XC mc ms free) := vx_backW (hh := hh) (bytes := bytes) (maxL := maxL) (ret := ret) hM hp.1 hrc hrs hfr hlo hws hcw (fun a' U hW => word_at hW (Or.inl (by first | rfl | simp [Cond.onTables, Cond.keeps, Cond.steady])) hini)
  obtain ⟨hx, hb, hml, ho, -⟩ := S
  intro T hT X
  rcases vx_callSX X hx (hh := hh) (bytes := bytes) (maxL := maxL) (ret := ret) ho hl hstt hini hcode hy hK hg (hsize.trans hml.symm) (argsL := As) (rest := rest) (fun sig h => hn.trans (hlen sig h)) hstack hW (by rw [hb]; exact hdg)
    (fun vm₁ hW₁ => ⟨hf.1, hf.2, hp.2 (T.setVm vm₁) hT hW₁⟩) with ⟨v, vm₁, ⟨U', l2, c2, s2⟩, hW₁, X', ⟨g', mk, t, L, e1, e2, hq, h1, hL, h2, h3⟩, st⟩ | ⟨q, vm₁, ⟨U', l2, c2, s2⟩, hW₁, X', ⟨g', mk, t, L, E, ce, e1, e2, hq, hce, hcv, hcl, h1, hL, h2, h3⟩, st⟩
  · dsimp only [Pt.U, Pt.locs, Pt.cells, Pt.slots] at X' e1 e2 h1 h2 h3 st
    subst h1; subst h2; subst h3
    exact Or.inl ⟨v, (T.setVm vm₁).calling g' mk As.toArray, t, U', L, hT, X', hL, e1, e2, hq, st⟩
  · dsimp only [Pt.U, Pt.locs, Pt.cells, Pt.slots] at X' e1 e2 h1 h2 h3 st hcl
    subst h1; subst h2; subst h3
    exact Or.inr ⟨q, (T.setVm vm₁).calling g' mk As.toArray, t, U', L, E, ce, hT, X', hL, e1, e2, hq, hce, hcv, vx_cls hW₁ hcl, st⟩
end
end VXH
theorem vx_ofWH {l : Launch} {y : MethodName} {ws ws' : List Cond} {rm : Room} {Pc : Array Value → State → Prop} {Qc : Array Value → State → Outcome → State → Prop} {XC : Addr → String → State → State → Prop} {mc ms : Nat} {free : Addr → Prop} {cc : ByteArray} {maxL : Nat} {ret : Option FieldType} {hh : List (Nat × Nat × Nat × Nat)}
    (hy : plainName y.cls = true) (hw : ws = Cond.codeWith y cc maxL ret hh :: ws')
    (body : ∀ p e s m args below meth c s₁, BodyLoose p l y (headSpec ws rm) cc maxL ret e s m args below meth c s₁ → c.maxLocals = maxL → Pc args s →
      W p l e (headSpec ws rm).room s m args below meth c s.heap [] 0 0 (vx_MQ below Qc XC args s mc ms free) (entryFrame m args maxL)) : vx_Met l y ws rm Pc Qc XC mc ms free := by
  refine MetFree.of_bodyS (code := cc) (maxLocals := maxL) (ret := ret) hy ?_ ?_
  · intro args s m h hn
    obtain ⟨m9, meth, c, hn9, h1, h2, h3, h4, -, h5, h6, -⟩ := Cond.codeWith_spec (atoms_spec (ws := ws) h _ (by rw [hw]; exact List.mem_cons_self))
    cases hn.symm.trans hn9
    exact ⟨meth, c, h1, h2, h3, h4, h5, h6⟩
  · intro p e s m args below meth c s₁ B hml hP _
    have hh0 : s₁.heap = s.heap := by rw [B.state]; rfl
    obtain ⟨t, a1, o, b1, b2, b3⟩ := body p e s m args below meth c s₁ B hml hP s₁ hh0 (Stand.of_body B)
    exact ⟨t, o, a1, b1, b2, b3⟩


def RX0 : String := "ObjectRules$Descriptor"
def TX0 : u_T := fun k => match k with
  | 0 => ("ObjectRules$Descriptor", "fields", "I", false)
  | 1 => ("ObjectRules$Descriptor", "truths", "I", false)
  | 2 => ("ObjectRules$Descriptor", "value", "I", false)
  | 3 => ("ObjectRules$Descriptor", "getter", "I", false)
  | _ => ("ObjectRules$Descriptor", "setter", "I", false)
def tyX0 : Nat → FieldType := fun k => match k with
  | 0 => .int
  | 1 => .int
  | 2 => .int
  | 3 => .int
  | _ => .int
abbrev wsX00 : List Cond := u_ws RX0 TX0 5
theorem nmX0 : ∀ a, a < 5 → ∀ b, b < 5 → a ≠ b → (TX0 a).2.1 ≠ (TX0 b).2.1 := by decide +kernel
theorem tyX0_ok : ∀ k, k < 5 → parseFieldDescriptor (TX0 k).2.2.1 = some (tyX0 k) := by decide +kernel
abbrev cX0_init : ByteArray := prog_2_method_1_code
def yX0_init : MethodName := ⟨RX0, "<init>", "()V"⟩
abbrev cX0_clear : ByteArray := prog_2_method_2_code
def yX0_clear : MethodName := ⟨RX0, "clear", "()V"⟩
abbrev cX0_copy : ByteArray := prog_2_method_3_code
def yX0_copy : MethodName := ⟨RX0, "copy", "(LObjectRules$Descriptor;)V"⟩
abbrev cX0_readBits : ByteArray := prog_2_method_4_code
def yX0_readBits : MethodName := ⟨RX0, "readBits", "(III)V"⟩
abbrev cX0_becomeData : ByteArray := prog_2_method_5_code
def yX0_becomeData : MethodName := ⟨RX0, "becomeData", "(I)V"⟩
abbrev cX0_putValue : ByteArray := prog_2_method_6_code
def yX0_putValue : MethodName := ⟨RX0, "putValue", "(I)V"⟩
abbrev cX0_putGetter : ByteArray := prog_2_method_7_code
def yX0_putGetter : MethodName := ⟨RX0, "putGetter", "(I)V"⟩
abbrev cX0_putSetter : ByteArray := prog_2_method_8_code
def yX0_putSetter : MethodName := ⟨RX0, "putSetter", "(I)V"⟩
abbrev cX0_putFlag : ByteArray := prog_2_method_9_code
def yX0_putFlag : MethodName := ⟨RX0, "putFlag", "(IZ)V"⟩
abbrev cX0_holds : ByteArray := prog_2_method_10_code
def yX0_holds : MethodName := ⟨RX0, "holds", "(I)Z"⟩
abbrev cX0_isTrue : ByteArray := prog_2_method_11_code
def yX0_isTrue : MethodName := ⟨RX0, "isTrue", "(I)Z"⟩
abbrev cX0_isAccessor : ByteArray := prog_2_method_12_code
def yX0_isAccessor : MethodName := ⟨RX0, "isAccessor", "()Z"⟩
abbrev cX0_isData : ByteArray := prog_2_method_13_code
def yX0_isData : MethodName := ⟨RX0, "isData", "()Z"⟩
abbrev cX0_isFixedValue : ByteArray := prog_2_method_14_code
def yX0_isFixedValue : MethodName := ⟨RX0, "isFixedValue", "()Z"⟩
abbrev cX0_complete : ByteArray := prog_2_method_15_code
def yX0_complete : MethodName := ⟨RX0, "complete", "()V"⟩
abbrev cX0_fits : ByteArray := prog_2_method_16_code
def yX0_fits : MethodName := ⟨RX0, "fits", "(ZLObjectRules$Descriptor;)Z"⟩
abbrev cX0_fitsAccessor : ByteArray := prog_2_method_17_code
def yX0_fitsAccessor : MethodName := ⟨RX0, "fitsAccessor", "(LObjectRules$Descriptor;)Z"⟩
abbrev cX0_fitsData : ByteArray := prog_2_method_18_code
def yX0_fitsData : MethodName := ⟨RX0, "fitsData", "(LObjectRules$Descriptor;)Z"⟩
abbrev cX0_tell : ByteArray := prog_2_method_19_code
def yX0_tell : MethodName := ⟨RX0, "tell", "(I)I"⟩
def RX1 : String := "ObjectRules$Descriptors"
def TX1 : u_T := fun k => match k with
  | _ => ("ObjectRules$Descriptors", "row", "[LObjectRules$Descriptor;", true)
def tyX1 : Nat → FieldType := fun k => match k with
  | _ => .array (.object "ObjectRules$Descriptor")
abbrev wsX10 : List Cond := u_ws RX1 TX1 1
theorem nmX1 : ∀ a, a < 1 → ∀ b, b < 1 → a ≠ b → (TX1 a).2.1 ≠ (TX1 b).2.1 := by decide +kernel
theorem tyX1_ok : ∀ k, k < 1 → parseFieldDescriptor (TX1 k).2.2.1 = some (tyX1 k) := by decide +kernel
abbrev cX1_init : ByteArray := prog_3_method_1_code
def yX1_init : MethodName := ⟨RX1, "<init>", "()V"⟩
abbrev cX1_given : ByteArray := prog_3_method_2_code
def yX1_given : MethodName := ⟨RX1, "given", "(I)LObjectRules$Descriptor;"⟩
abbrev cX1_ofTarget : ByteArray := prog_3_method_3_code
def yX1_ofTarget : MethodName := ⟨RX1, "ofTarget", "(I)LObjectRules$Descriptor;"⟩
abbrev cX1_ofReceiver : ByteArray := prog_3_method_4_code
def yX1_ofReceiver : MethodName := ⟨RX1, "ofReceiver", "(I)LObjectRules$Descriptor;"⟩
abbrev cX1_made : ByteArray := prog_3_method_5_code
def yX1_made : MethodName := ⟨RX1, "made", "(I)LObjectRules$Descriptor;"⟩
abbrev cX1_ofLength : ByteArray := prog_3_method_6_code
def yX1_ofLength : MethodName := ⟨RX1, "ofLength", "(I)LObjectRules$Descriptor;"⟩
abbrev cX1_at : ByteArray := prog_3_method_7_code
def yX1_at : MethodName := ⟨RX1, "at", "(II)LObjectRules$Descriptor;"⟩
def RX2 : String := "ObjectRules$KeyLists"
def TX2 : u_T := fun k => match k with
  | 0 => ("ObjectRules$KeyLists", "row", "[I", true)
  | 1 => ("ObjectRules$KeyLists", "seen", "[I", true)
  | _ => ("ObjectRules$KeyLists", "used", "I", false)
def tyX2 : Nat → FieldType := fun k => match k with
  | 0 => .array .int
  | 1 => .array .int
  | _ => .int
abbrev wsX20 : List Cond := u_ws RX2 TX2 3
theorem nmX2 : ∀ a, a < 3 → ∀ b, b < 3 → a ≠ b → (TX2 a).2.1 ≠ (TX2 b).2.1 := by decide +kernel
theorem tyX2_ok : ∀ k, k < 3 → parseFieldDescriptor (TX2 k).2.2.1 = some (tyX2 k) := by decide +kernel
abbrev cX2_init : ByteArray := prog_4_method_1_code
def yX2_init : MethodName := ⟨RX2, "<init>", "()V"⟩
abbrev cX2_top : ByteArray := prog_4_method_2_code
def yX2_top : MethodName := ⟨RX2, "top", "()I"⟩
abbrev cX2_push : ByteArray := prog_4_method_3_code
def yX2_push : MethodName := ⟨RX2, "push", "(I)V"⟩
abbrev cX2_cutTo : ByteArray := prog_4_method_4_code
def yX2_cutTo : MethodName := ⟨RX2, "cutTo", "(I)V"⟩
abbrev cX2_at : ByteArray := prog_4_method_5_code
def yX2_at : MethodName := ⟨RX2, "at", "(I)I"⟩
abbrev cX2_holds : ByteArray := prog_4_method_6_code
def yX2_holds : MethodName := ⟨RX2, "holds", "(III)Z"⟩
abbrev cX2_hasTwice : ByteArray := prog_4_method_7_code
def yX2_hasTwice : MethodName := ⟨RX2, "hasTwice", "(I)Z"⟩
abbrev cX2_copyTo : ByteArray := prog_4_method_8_code
def yX2_copyTo : MethodName := ⟨RX2, "copyTo", "([III)I"⟩
def RX3 : String := "ObjectRules$Store"
def TX3 : u_T := fun k => match k with
  | 0 => ("ObjectRules$Store", "kinds", "[I", true)
  | 1 => ("ObjectRules$Store", "parents", "[I", true)
  | 2 => ("ObjectRules$Store", "opens", "[Z", true)
  | 3 => ("ObjectRules$Store", "firstSlots", "[I", true)
  | 4 => ("ObjectRules$Store", "firstParts", "[I", true)
  | 5 => ("ObjectRules$Store", "secondParts", "[I", true)
  | 6 => ("ObjectRules$Store", "thirdParts", "[I", true)
  | 7 => ("ObjectRules$Store", "objects", "I", false)
  | 8 => ("ObjectRules$Store", "slotKeys", "[I", true)
  | 9 => ("ObjectRules$Store", "slotValues", "[I", true)
  | 10 => ("ObjectRules$Store", "slotSetters", "[I", true)
  | 11 => ("ObjectRules$Store", "slotFlags", "[I", true)
  | 12 => ("ObjectRules$Store", "slotNexts", "[I", true)
  | _ => ("ObjectRules$Store", "firstFree", "I", false)
def tyX3 : Nat → FieldType := fun k => match k with
  | 0 => .array .int
  | 1 => .array .int
  | 2 => .array .boolean
  | 3 => .array .int
  | 4 => .array .int
  | 5 => .array .int
  | 6 => .array .int
  | 7 => .int
  | 8 => .array .int
  | 9 => .array .int
  | 10 => .array .int
  | 11 => .array .int
  | 12 => .array .int
  | _ => .int
abbrev wsX30 : List Cond := u_ws RX3 TX3 14
theorem nmX3 : ∀ a, a < 14 → ∀ b, b < 14 → a ≠ b → (TX3 a).2.1 ≠ (TX3 b).2.1 := by decide +kernel
theorem tyX3_ok : ∀ k, k < 14 → parseFieldDescriptor (TX3 k).2.2.1 = some (tyX3 k) := by decide +kernel
abbrev cX3_init : ByteArray := prog_5_method_1_code
def yX3_init : MethodName := ⟨RX3, "<init>", "()V"⟩
abbrev cX3_size : ByteArray := prog_5_method_2_code
def yX3_size : MethodName := ⟨RX3, "size", "()I"⟩
abbrev cX3_addOrdinary : ByteArray := prog_5_method_3_code
def yX3_addOrdinary : MethodName := ⟨RX3, "addOrdinary", "(I)I"⟩
abbrev cX3_addArray : ByteArray := prog_5_method_4_code
def yX3_addArray : MethodName := ⟨RX3, "addArray", "(I)I"⟩
abbrev cX3_addFunction : ByteArray := prog_5_method_5_code
def yX3_addFunction : MethodName := ⟨RX3, "addFunction", "(III)I"⟩
abbrev cX3_addProxy : ByteArray := prog_5_method_6_code
def yX3_addProxy : MethodName := ⟨RX3, "addProxy", "(II)I"⟩
abbrev cX3_add : ByteArray := prog_5_method_7_code
def yX3_add : MethodName := ⟨RX3, "add", "(II)I"⟩
abbrev cX3_putParts : ByteArray := prog_5_method_8_code
def yX3_putParts : MethodName := ⟨RX3, "putParts", "(IIII)V"⟩
abbrev cX3_rowOf : ByteArray := prog_5_method_9_code
def yX3_rowOf : MethodName := ⟨RX3, "rowOf", "(I)I"⟩
abbrev cX3_kindOf : ByteArray := prog_5_method_10_code
def yX3_kindOf : MethodName := ⟨RX3, "kindOf", "(I)I"⟩
abbrev cX3_isObject : ByteArray := prog_5_method_11_code
def yX3_isObject : MethodName := ⟨RX3, "isObject", "(I)Z"⟩
abbrev cX3_isArray : ByteArray := prog_5_method_12_code
def yX3_isArray : MethodName := ⟨RX3, "isArray", "(I)Z"⟩
abbrev cX3_isFunction : ByteArray := prog_5_method_13_code
def yX3_isFunction : MethodName := ⟨RX3, "isFunction", "(I)Z"⟩
abbrev cX3_isProxy : ByteArray := prog_5_method_14_code
def yX3_isProxy : MethodName := ⟨RX3, "isProxy", "(I)Z"⟩
abbrev cX3_partOf : ByteArray := prog_5_method_15_code
def yX3_partOf : MethodName := ⟨RX3, "partOf", "(I[I)I"⟩
abbrev cX3_actOf : ByteArray := prog_5_method_16_code
def yX3_actOf : MethodName := ⟨RX3, "actOf", "(I)I"⟩
abbrev cX3_keyNamedBy : ByteArray := prog_5_method_17_code
def yX3_keyNamedBy : MethodName := ⟨RX3, "keyNamedBy", "(I)I"⟩
abbrev cX3_givenBy : ByteArray := prog_5_method_18_code
def yX3_givenBy : MethodName := ⟨RX3, "givenBy", "(I)I"⟩
abbrev cX3_targetOf : ByteArray := prog_5_method_19_code
def yX3_targetOf : MethodName := ⟨RX3, "targetOf", "(I)I"⟩
abbrev cX3_handlerOf : ByteArray := prog_5_method_20_code
def yX3_handlerOf : MethodName := ⟨RX3, "handlerOf", "(I)I"⟩
abbrev cX3_isRevoked : ByteArray := prog_5_method_21_code
def yX3_isRevoked : MethodName := ⟨RX3, "isRevoked", "(I)Z"⟩
abbrev cX3_markRevoked : ByteArray := prog_5_method_22_code
def yX3_markRevoked : MethodName := ⟨RX3, "markRevoked", "(I)V"⟩
abbrev cX3_parentOf : ByteArray := prog_5_method_23_code
def yX3_parentOf : MethodName := ⟨RX3, "parentOf", "(I)I"⟩
abbrev cX3_putParent : ByteArray := prog_5_method_24_code
def yX3_putParent : MethodName := ⟨RX3, "putParent", "(II)V"⟩
abbrev cX3_isOpen : ByteArray := prog_5_method_25_code
def yX3_isOpen : MethodName := ⟨RX3, "isOpen", "(I)Z"⟩
abbrev cX3_close : ByteArray := prog_5_method_26_code
def yX3_close : MethodName := ⟨RX3, "close", "(I)V"⟩
abbrev cX3_descendsFrom : ByteArray := prog_5_method_27_code
def yX3_descendsFrom : MethodName := ⟨RX3, "descendsFrom", "(II)Z"⟩
abbrev cX3_holder : ByteArray := prog_5_method_28_code
def yX3_holder : MethodName := ⟨RX3, "holder", "(II)I"⟩
abbrev cX3_firstSlotOf : ByteArray := prog_5_method_29_code
def yX3_firstSlotOf : MethodName := ⟨RX3, "firstSlotOf", "(I)I"⟩
abbrev cX3_isSlot : ByteArray := prog_5_method_30_code
def yX3_isSlot : MethodName := ⟨RX3, "isSlot", "(I)Z"⟩
abbrev cX3_nextOf : ByteArray := prog_5_method_31_code
def yX3_nextOf : MethodName := ⟨RX3, "nextOf", "(I)I"⟩
abbrev cX3_flagsAt : ByteArray := prog_5_method_32_code
def yX3_flagsAt : MethodName := ⟨RX3, "flagsAt", "(I)I"⟩
abbrev cX3_valueAt : ByteArray := prog_5_method_33_code
def yX3_valueAt : MethodName := ⟨RX3, "valueAt", "(I)I"⟩
abbrev cX3_setterAt : ByteArray := prog_5_method_34_code
def yX3_setterAt : MethodName := ⟨RX3, "setterAt", "(I)I"⟩
abbrev cX3_isAccessor : ByteArray := prog_5_method_35_code
def yX3_isAccessor : MethodName := ⟨RX3, "isAccessor", "(I)Z"⟩
abbrev cX3_isWritable : ByteArray := prog_5_method_36_code
def yX3_isWritable : MethodName := ⟨RX3, "isWritable", "(I)Z"⟩
abbrev cX3_isConfigurable : ByteArray := prog_5_method_37_code
def yX3_isConfigurable : MethodName := ⟨RX3, "isConfigurable", "(I)Z"⟩
abbrev cX3_putValueAt : ByteArray := prog_5_method_38_code
def yX3_putValueAt : MethodName := ⟨RX3, "putValueAt", "(II)V"⟩
abbrev cX3_putFlagsAt : ByteArray := prog_5_method_39_code
def yX3_putFlagsAt : MethodName := ⟨RX3, "putFlagsAt", "(II)V"⟩
abbrev cX3_find : ByteArray := prog_5_method_40_code
def yX3_find : MethodName := ⟨RX3, "find", "(II)I"⟩
abbrev cX3_slotBefore : ByteArray := prog_5_method_41_code
def yX3_slotBefore : MethodName := ⟨RX3, "slotBefore", "(II)I"⟩
abbrev cX3_standsBehind : ByteArray := prog_5_method_42_code
def yX3_standsBehind : MethodName := ⟨RX3, "standsBehind", "(II)Z"⟩
abbrev cX3_append : ByteArray := prog_5_method_43_code
def yX3_append : MethodName := ⟨RX3, "append", "(II)I"⟩
abbrev cX3_link : ByteArray := prog_5_method_44_code
def yX3_link : MethodName := ⟨RX3, "link", "(III)V"⟩
abbrev cX3_erase : ByteArray := prog_5_method_45_code
def yX3_erase : MethodName := ⟨RX3, "erase", "(II)V"⟩
abbrev cX3_cutElements : ByteArray := prog_5_method_46_code
def yX3_cutElements : MethodName := ⟨RX3, "cutElements", "(II)I"⟩
abbrev cX3_describe : ByteArray := prog_5_method_47_code
def yX3_describe : MethodName := ⟨RX3, "describe", "(ILObjectRules$Descriptor;)Z"⟩
abbrev cX3_write : ByteArray := prog_5_method_48_code
def yX3_write : MethodName := ⟨RX3, "write", "(ILObjectRules$Descriptor;)V"⟩
abbrev cX3_pushKeys : ByteArray := prog_5_method_49_code
def yX3_pushKeys : MethodName := ⟨RX3, "pushKeys", "(ILObjectRules$KeyLists;)I"⟩
def RX4 : String := "ObjectRules$Trapless"
def TX4 : u_T := fun k => match k with
  | 0 => ("ObjectRules$Trapless", "heights", "[I", true)
  | 1 => ("ObjectRules$Trapless", "moments", "[I", true)
  | _ => ("ObjectRules$Trapless", "moment", "I", false)
def tyX4 : Nat → FieldType := fun k => match k with
  | 0 => .array .int
  | 1 => .array .int
  | _ => .int
abbrev wsX40 : List Cond := u_ws RX4 TX4 3
theorem nmX4 : ∀ a, a < 3 → ∀ b, b < 3 → a ≠ b → (TX4 a).2.1 ≠ (TX4 b).2.1 := by decide +kernel
theorem tyX4_ok : ∀ k, k < 3 → parseFieldDescriptor (TX4 k).2.2.1 = some (tyX4 k) := by decide +kernel
abbrev cX4_init : ByteArray := prog_6_method_1_code
def yX4_init : MethodName := ⟨RX4, "<init>", "()V"⟩
abbrev cX4_moment : ByteArray := prog_6_method_2_code
def yX4_moment : MethodName := ⟨RX4, "moment", "()I"⟩
abbrev cX4_forget : ByteArray := prog_6_method_3_code
def yX4_forget : MethodName := ⟨RX4, "forget", "()V"⟩
abbrev cX4_keep : ByteArray := prog_6_method_4_code
def yX4_keep : MethodName := ⟨RX4, "keep", "(II)V"⟩
abbrev cX4_holds : ByteArray := prog_6_method_5_code
def yX4_holds : MethodName := ⟨RX4, "holds", "(I)Z"⟩
abbrev cX4_heightOf : ByteArray := prog_6_method_6_code
def yX4_heightOf : MethodName := ⟨RX4, "heightOf", "(I)I"⟩
abbrev cX4_at : ByteArray := prog_6_method_7_code
def yX4_at : MethodName := ⟨RX4, "at", "(I[I)I"⟩
def RX5 : String := "ObjectRules"
def TX5 : u_T := fun k => match k with
  | 0 => ("ObjectRules", "store", "LObjectRules$Store;", true)
  | 1 => ("ObjectRules", "descriptors", "LObjectRules$Descriptors;", true)
  | 2 => ("ObjectRules", "lists", "LObjectRules$KeyLists;", true)
  | 3 => ("ObjectRules", "trapless", "LObjectRules$Trapless;", true)
  | 4 => ("ObjectRules", "current", "LObjectRules$Descriptor;", true)
  | 5 => ("ObjectRules", "heldKeys", "[I", true)
  | 6 => ("ObjectRules", "called", "[I", true)
  | 7 => ("ObjectRules", "heldCount", "I", false)
  | 8 => ("ObjectRules", "calledCount", "I", false)
  | 9 => ("ObjectRules", "thrownLatest", "I", false)
  | 10 => ("ObjectRules", "depth", "I", false)
  | _ => ("ObjectRules", "deepest", "I", false)
def tyX5 : Nat → FieldType := fun k => match k with
  | 0 => .object "ObjectRules$Store"
  | 1 => .object "ObjectRules$Descriptors"
  | 2 => .object "ObjectRules$KeyLists"
  | 3 => .object "ObjectRules$Trapless"
  | 4 => .object "ObjectRules$Descriptor"
  | 5 => .array .int
  | 6 => .array .int
  | 7 => .int
  | 8 => .int
  | 9 => .int
  | 10 => .int
  | _ => .int
abbrev wsX50 : List Cond := u_ws RX5 TX5 12
theorem nmX5 : ∀ a, a < 12 → ∀ b, b < 12 → a ≠ b → (TX5 a).2.1 ≠ (TX5 b).2.1 := by decide +kernel
theorem tyX5_ok : ∀ k, k < 12 → parseFieldDescriptor (TX5 k).2.2.1 = some (tyX5 k) := by decide +kernel
abbrev cX5_init : ByteArray := prog_1_method_1_code
def yX5_init : MethodName := ⟨RX5, "<init>", "()V"⟩
abbrev cX5_make : ByteArray := prog_1_method_2_code
def yX5_make : MethodName := ⟨RX5, "make", "(I)I"⟩
abbrev cX5_array : ByteArray := prog_1_method_3_code
def yX5_array : MethodName := ⟨RX5, "array", "(I)I"⟩
abbrev cX5_function : ByteArray := prog_1_method_4_code
def yX5_function : MethodName := ⟨RX5, "function", "(III)I"⟩
abbrev cX5_proxy : ByteArray := prog_1_method_5_code
def yX5_proxy : MethodName := ⟨RX5, "proxy", "(II)I"⟩
abbrev cX5_revoke : ByteArray := prog_1_method_6_code
def yX5_revoke : MethodName := ⟨RX5, "revoke", "(I)Z"⟩
abbrev cX5_get : ByteArray := prog_1_method_7_code
def yX5_get : MethodName := ⟨RX5, "get", "(IIIZ)I"⟩
abbrev cX5_set : ByteArray := prog_1_method_8_code
def yX5_set : MethodName := ⟨RX5, "set", "(IIIIZ)Z"⟩
abbrev cX5_has : ByteArray := prog_1_method_9_code
def yX5_has : MethodName := ⟨RX5, "has", "(IIZ)Z"⟩
abbrev cX5_remove : ByteArray := prog_1_method_10_code
def yX5_remove : MethodName := ⟨RX5, "remove", "(II)Z"⟩
abbrev cX5_define : ByteArray := prog_1_method_11_code
def yX5_define : MethodName := ⟨RX5, "define", "(IIIII)Z"⟩
abbrev cX5_about : ByteArray := prog_1_method_12_code
def yX5_about : MethodName := ⟨RX5, "about", "(III)I"⟩
abbrev cX5_keys : ByteArray := prog_1_method_13_code
def yX5_keys : MethodName := ⟨RX5, "keys", "(IZ)I"⟩
abbrev cX5_key : ByteArray := prog_1_method_14_code
def yX5_key : MethodName := ⟨RX5, "key", "(I)I"⟩
abbrev cX5_parent : ByteArray := prog_1_method_15_code
def yX5_parent : MethodName := ⟨RX5, "parent", "(I)I"⟩
abbrev cX5_setParent : ByteArray := prog_1_method_16_code
def yX5_setParent : MethodName := ⟨RX5, "setParent", "(II)Z"⟩
abbrev cX5_open : ByteArray := prog_1_method_17_code
def yX5_open : MethodName := ⟨RX5, "open", "(I)Z"⟩
abbrev cX5_shut : ByteArray := prog_1_method_18_code
def yX5_shut : MethodName := ⟨RX5, "shut", "(I)Z"⟩
abbrev cX5_level : ByteArray := prog_1_method_19_code
def yX5_level : MethodName := ⟨RX5, "level", "(IZZ)Z"⟩
abbrev cX5_assign : ByteArray := prog_1_method_20_code
def yX5_assign : MethodName := ⟨RX5, "assign", "(II)I"⟩
abbrev cX5_call : ByteArray := prog_1_method_21_code
def yX5_call : MethodName := ⟨RX5, "call", "(I)I"⟩
abbrev cX5_count : ByteArray := prog_1_method_22_code
def yX5_count : MethodName := ⟨RX5, "count", "(I)I"⟩
abbrev cX5_begin : ByteArray := prog_1_method_23_code
def yX5_begin : MethodName := ⟨RX5, "begin", "()V"⟩
abbrev cX5_requireObject : ByteArray := prog_1_method_24_code
def yX5_requireObject : MethodName := ⟨RX5, "requireObject", "(I)V"⟩
abbrev cX5_requirePrototype : ByteArray := prog_1_method_25_code
def yX5_requirePrototype : MethodName := ⟨RX5, "requirePrototype", "(I)V"⟩
abbrev cX5_requireKey : ByteArray := prog_1_method_26_code
def yX5_requireKey : MethodName := ⟨RX5, "requireKey", "(I)V"⟩
abbrev cX5_requireValue : ByteArray := prog_1_method_27_code
def yX5_requireValue : MethodName := ⟨RX5, "requireValue", "(I)V"⟩
abbrev cX5_requireReceiver : ByteArray := prog_1_method_28_code
def yX5_requireReceiver : MethodName := ⟨RX5, "requireReceiver", "(IZ)V"⟩
abbrev cX5_enter : ByteArray := prog_1_method_29_code
def yX5_enter : MethodName := ⟨RX5, "enter", "()V"⟩
abbrev cX5_reach : ByteArray := prog_1_method_30_code
def yX5_reach : MethodName := ⟨RX5, "reach", "(I)V"⟩
abbrev cX5_enterProxy : ByteArray := prog_1_method_31_code
def yX5_enterProxy : MethodName := ⟨RX5, "enterProxy", "(I)V"⟩
abbrev cX5_enterFunction : ByteArray := prog_1_method_32_code
def yX5_enterFunction : MethodName := ⟨RX5, "enterFunction", "(I)V"⟩
abbrev cX5_leave : ByteArray := prog_1_method_33_code
def yX5_leave : MethodName := ⟨RX5, "leave", "()V"⟩
abbrev cX5_invoke : ByteArray := prog_1_method_34_code
def yX5_invoke : MethodName := ⟨RX5, "invoke", "(IIIIIII)I"⟩
abbrev cX5_readFrom : ByteArray := prog_1_method_35_code
def yX5_readFrom : MethodName := ⟨RX5, "readFrom", "(II)I"⟩
abbrev cX5_writeTo : ByteArray := prog_1_method_36_code
def yX5_writeTo : MethodName := ⟨RX5, "writeTo", "(III)V"⟩
abbrev cX5_setOrThrow : ByteArray := prog_1_method_37_code
def yX5_setOrThrow : MethodName := ⟨RX5, "setOrThrow", "(III)V"⟩
abbrev cX5_reflect : ByteArray := prog_1_method_38_code
def yX5_reflect : MethodName := ⟨RX5, "reflect", "(IIIII)I"⟩
abbrev cX5_truth : ByteArray := prog_1_method_39_code
def yX5_truth : MethodName := ⟨RX5, "truth", "(Z)I"⟩
abbrev cX5_toBoolean : ByteArray := prog_1_method_40_code
def yX5_toBoolean : MethodName := ⟨RX5, "toBoolean", "(I)Z"⟩
abbrev cX5_reflectDefine : ByteArray := prog_1_method_41_code
def yX5_reflectDefine : MethodName := ⟨RX5, "reflectDefine", "(III)Z"⟩
abbrev cX5_reflectOwn : ByteArray := prog_1_method_42_code
def yX5_reflectOwn : MethodName := ⟨RX5, "reflectOwn", "(II)I"⟩
abbrev cX5_reflectKeys : ByteArray := prog_1_method_43_code
def yX5_reflectKeys : MethodName := ⟨RX5, "reflectKeys", "(I)I"⟩
abbrev cX5_objectFrom : ByteArray := prog_1_method_44_code
def yX5_objectFrom : MethodName := ⟨RX5, "objectFrom", "(LObjectRules$Descriptor;)I"⟩
abbrev cX5_arrayFrom : ByteArray := prog_1_method_45_code
def yX5_arrayFrom : MethodName := ⟨RX5, "arrayFrom", "(II)I"⟩
abbrev cX5_putData : ByteArray := prog_1_method_46_code
def yX5_putData : MethodName := ⟨RX5, "putData", "(III)V"⟩
abbrev cX5_readDescriptor : ByteArray := prog_1_method_47_code
def yX5_readDescriptor : MethodName := ⟨RX5, "readDescriptor", "(ILObjectRules$Descriptor;)V"⟩
abbrev cX5_readFlag : ByteArray := prog_1_method_48_code
def yX5_readFlag : MethodName := ⟨RX5, "readFlag", "(IIILObjectRules$Descriptor;)V"⟩
abbrev cX5_requireCallable : ByteArray := prog_1_method_49_code
def yX5_requireCallable : MethodName := ⟨RX5, "requireCallable", "(I)V"⟩
abbrev cX5_requireOneKind : ByteArray := prog_1_method_50_code
def yX5_requireOneKind : MethodName := ⟨RX5, "requireOneKind", "(LObjectRules$Descriptor;)V"⟩
abbrev cX5_pushListed : ByteArray := prog_1_method_51_code
def yX5_pushListed : MethodName := ⟨RX5, "pushListed", "(I)I"⟩
abbrev cX5_toLength : ByteArray := prog_1_method_52_code
def yX5_toLength : MethodName := ⟨RX5, "toLength", "(I)I"⟩
abbrev cX5_isNumeric : ByteArray := prog_1_method_53_code
def yX5_isNumeric : MethodName := ⟨RX5, "isNumeric", "(I)Z"⟩
abbrev cX5_toNumber : ByteArray := prog_1_method_54_code
def yX5_toNumber : MethodName := ⟨RX5, "toNumber", "(I)I"⟩
abbrev cX5_getFrom : ByteArray := prog_1_method_55_code
def yX5_getFrom : MethodName := ⟨RX5, "getFrom", "(III)I"⟩
abbrev cX5_trapOf : ByteArray := prog_1_method_56_code
def yX5_trapOf : MethodName := ⟨RX5, "trapOf", "(II)I"⟩
abbrev cX5_askHandler : ByteArray := prog_1_method_57_code
def yX5_askHandler : MethodName := ⟨RX5, "askHandler", "(II)I"⟩
abbrev cX5_getTrapOf : ByteArray := prog_1_method_58_code
def yX5_getTrapOf : MethodName := ⟨RX5, "getTrapOf", "(I)I"⟩
abbrev cX5_proxyGet : ByteArray := prog_1_method_59_code
def yX5_proxyGet : MethodName := ⟨RX5, "proxyGet", "(III)I"⟩
abbrev cX5_checkGot : ByteArray := prog_1_method_60_code
def yX5_checkGot : MethodName := ⟨RX5, "checkGot", "(III)V"⟩
abbrev cX5_setIn : ByteArray := prog_1_method_61_code
def yX5_setIn : MethodName := ⟨RX5, "setIn", "(IIII)Z"⟩
abbrev cX5_setOnReceiver : ByteArray := prog_1_method_62_code
def yX5_setOnReceiver : MethodName := ⟨RX5, "setOnReceiver", "(III)Z"⟩
abbrev cX5_proxySet : ByteArray := prog_1_method_63_code
def yX5_proxySet : MethodName := ⟨RX5, "proxySet", "(IIII)Z"⟩
abbrev cX5_checkSet : ByteArray := prog_1_method_64_code
def yX5_checkSet : MethodName := ⟨RX5, "checkSet", "(III)V"⟩
abbrev cX5_hasIn : ByteArray := prog_1_method_65_code
def yX5_hasIn : MethodName := ⟨RX5, "hasIn", "(II)Z"⟩
abbrev cX5_proxyHas : ByteArray := prog_1_method_66_code
def yX5_proxyHas : MethodName := ⟨RX5, "proxyHas", "(II)Z"⟩
abbrev cX5_checkHidden : ByteArray := prog_1_method_67_code
def yX5_checkHidden : MethodName := ⟨RX5, "checkHidden", "(II)V"⟩
abbrev cX5_requireRemovable : ByteArray := prog_1_method_68_code
def yX5_requireRemovable : MethodName := ⟨RX5, "requireRemovable", "(ILObjectRules$Descriptor;)V"⟩
abbrev cX5_deleteFrom : ByteArray := prog_1_method_69_code
def yX5_deleteFrom : MethodName := ⟨RX5, "deleteFrom", "(II)Z"⟩
abbrev cX5_proxyDelete : ByteArray := prog_1_method_70_code
def yX5_proxyDelete : MethodName := ⟨RX5, "proxyDelete", "(II)Z"⟩
abbrev cX5_defineOn : ByteArray := prog_1_method_71_code
def yX5_defineOn : MethodName := ⟨RX5, "defineOn", "(IILObjectRules$Descriptor;)Z"⟩
abbrev cX5_ordinaryDefine : ByteArray := prog_1_method_72_code
def yX5_ordinaryDefine : MethodName := ⟨RX5, "ordinaryDefine", "(IILObjectRules$Descriptor;)Z"⟩
abbrev cX5_defineElement : ByteArray := prog_1_method_73_code
def yX5_defineElement : MethodName := ⟨RX5, "defineElement", "(IILObjectRules$Descriptor;)Z"⟩
abbrev cX5_defineLength : ByteArray := prog_1_method_74_code
def yX5_defineLength : MethodName := ⟨RX5, "defineLength", "(ILObjectRules$Descriptor;)Z"⟩
abbrev cX5_proxyDefine : ByteArray := prog_1_method_75_code
def yX5_proxyDefine : MethodName := ⟨RX5, "proxyDefine", "(IILObjectRules$Descriptor;)Z"⟩
abbrev cX5_checkDefined : ByteArray := prog_1_method_76_code
def yX5_checkDefined : MethodName := ⟨RX5, "checkDefined", "(IILObjectRules$Descriptor;)V"⟩
abbrev cX5_ownOf : ByteArray := prog_1_method_77_code
def yX5_ownOf : MethodName := ⟨RX5, "ownOf", "(IILObjectRules$Descriptor;)Z"⟩
abbrev cX5_proxyOwn : ByteArray := prog_1_method_78_code
def yX5_proxyOwn : MethodName := ⟨RX5, "proxyOwn", "(IILObjectRules$Descriptor;)Z"⟩
abbrev cX5_checkOwn : ByteArray := prog_1_method_79_code
def yX5_checkOwn : MethodName := ⟨RX5, "checkOwn", "(IIILObjectRules$Descriptor;)Z"⟩
abbrev cX5_checkFixed : ByteArray := prog_1_method_80_code
def yX5_checkFixed : MethodName := ⟨RX5, "checkFixed", "(ZLObjectRules$Descriptor;LObjectRules$Descriptor;)V"⟩
abbrev cX5_keysOf : ByteArray := prog_1_method_81_code
def yX5_keysOf : MethodName := ⟨RX5, "keysOf", "(I)I"⟩
abbrev cX5_proxyKeys : ByteArray := prog_1_method_82_code
def yX5_proxyKeys : MethodName := ⟨RX5, "proxyKeys", "(I)I"⟩
abbrev cX5_checkKeys : ByteArray := prog_1_method_83_code
def yX5_checkKeys : MethodName := ⟨RX5, "checkKeys", "(III)V"⟩
abbrev cX5_prototypeOf : ByteArray := prog_1_method_84_code
def yX5_prototypeOf : MethodName := ⟨RX5, "prototypeOf", "(I)I"⟩
abbrev cX5_proxyPrototype : ByteArray := prog_1_method_85_code
def yX5_proxyPrototype : MethodName := ⟨RX5, "proxyPrototype", "(I)I"⟩
abbrev cX5_checkPrototype : ByteArray := prog_1_method_86_code
def yX5_checkPrototype : MethodName := ⟨RX5, "checkPrototype", "(II)V"⟩
abbrev cX5_requireSamePrototype : ByteArray := prog_1_method_87_code
def yX5_requireSamePrototype : MethodName := ⟨RX5, "requireSamePrototype", "(II)V"⟩
abbrev cX5_changePrototype : ByteArray := prog_1_method_88_code
def yX5_changePrototype : MethodName := ⟨RX5, "changePrototype", "(II)Z"⟩
abbrev cX5_proxyChangePrototype : ByteArray := prog_1_method_89_code
def yX5_proxyChangePrototype : MethodName := ⟨RX5, "proxyChangePrototype", "(II)Z"⟩
abbrev cX5_isExtensible : ByteArray := prog_1_method_90_code
def yX5_isExtensible : MethodName := ⟨RX5, "isExtensible", "(I)Z"⟩
abbrev cX5_proxyIsExtensible : ByteArray := prog_1_method_91_code
def yX5_proxyIsExtensible : MethodName := ⟨RX5, "proxyIsExtensible", "(I)Z"⟩
abbrev cX5_preventExtensions : ByteArray := prog_1_method_92_code
def yX5_preventExtensions : MethodName := ⟨RX5, "preventExtensions", "(I)Z"⟩
abbrev cX5_proxyPreventExtensions : ByteArray := prog_1_method_93_code
def yX5_proxyPreventExtensions : MethodName := ⟨RX5, "proxyPreventExtensions", "(I)Z"⟩
abbrev cX5_setLevel : ByteArray := prog_1_method_94_code
def yX5_setLevel : MethodName := ⟨RX5, "setLevel", "(IZ)Z"⟩
abbrev cX5_testLevel : ByteArray := prog_1_method_95_code
def yX5_testLevel : MethodName := ⟨RX5, "testLevel", "(IZ)Z"⟩
abbrev cX5_assignAll : ByteArray := prog_1_method_96_code
def yX5_assignAll : MethodName := ⟨RX5, "assignAll", "(II)I"⟩
def RX6 : String := "ObjectRulesModel$Desc"
def TX6 : u_T := fun k => match k with
  | 0 => ("ObjectRulesModel$Desc", "hasValue", "Z", false)
  | 1 => ("ObjectRulesModel$Desc", "hasWritable", "Z", false)
  | 2 => ("ObjectRulesModel$Desc", "hasGet", "Z", false)
  | 3 => ("ObjectRulesModel$Desc", "hasSet", "Z", false)
  | 4 => ("ObjectRulesModel$Desc", "hasEnumerable", "Z", false)
  | 5 => ("ObjectRulesModel$Desc", "hasConfigurable", "Z", false)
  | 6 => ("ObjectRulesModel$Desc", "writable", "Z", false)
  | 7 => ("ObjectRulesModel$Desc", "enumerable", "Z", false)
  | 8 => ("ObjectRulesModel$Desc", "configurable", "Z", false)
  | 9 => ("ObjectRulesModel$Desc", "value", "I", false)
  | 10 => ("ObjectRulesModel$Desc", "get", "I", false)
  | _ => ("ObjectRulesModel$Desc", "set", "I", false)
def tyX6 : Nat → FieldType := fun k => match k with
  | 0 => .boolean
  | 1 => .boolean
  | 2 => .boolean
  | 3 => .boolean
  | 4 => .boolean
  | 5 => .boolean
  | 6 => .boolean
  | 7 => .boolean
  | 8 => .boolean
  | 9 => .int
  | 10 => .int
  | _ => .int
abbrev wsX60 : List Cond := u_ws RX6 TX6 12
theorem nmX6 : ∀ a, a < 12 → ∀ b, b < 12 → a ≠ b → (TX6 a).2.1 ≠ (TX6 b).2.1 := by decide +kernel
theorem tyX6_ok : ∀ k, k < 12 → parseFieldDescriptor (TX6 k).2.2.1 = some (tyX6 k) := by decide +kernel
abbrev cX6_init : ByteArray := prog_9_method_1_code
def yX6_init : MethodName := ⟨RX6, "<init>", "()V"⟩
abbrev cX6_clear : ByteArray := prog_9_method_2_code
def yX6_clear : MethodName := ⟨RX6, "clear", "()V"⟩
abbrev cX6_copy : ByteArray := prog_9_method_3_code
def yX6_copy : MethodName := ⟨RX6, "copy", "(LObjectRulesModel$Desc;)V"⟩
abbrev cX6_isAccessor : ByteArray := prog_9_method_4_code
def yX6_isAccessor : MethodName := ⟨RX6, "isAccessor", "()Z"⟩
abbrev cX6_isData : ByteArray := prog_9_method_5_code
def yX6_isData : MethodName := ⟨RX6, "isData", "()Z"⟩
def RX7 : String := "ObjectRulesModel$Keys"
def TX7 : u_T := fun k => match k with
  | 0 => ("ObjectRulesModel$Keys", "at", "[I", true)
  | _ => ("ObjectRulesModel$Keys", "many", "I", false)
def tyX7 : Nat → FieldType := fun k => match k with
  | 0 => .array .int
  | _ => .int
abbrev wsX70 : List Cond := u_ws RX7 TX7 2
theorem nmX7 : ∀ a, a < 2 → ∀ b, b < 2 → a ≠ b → (TX7 a).2.1 ≠ (TX7 b).2.1 := by decide +kernel
theorem tyX7_ok : ∀ k, k < 2 → parseFieldDescriptor (TX7 k).2.2.1 = some (tyX7 k) := by decide +kernel
abbrev cX7_init : ByteArray := prog_10_method_1_code
def yX7_init : MethodName := ⟨RX7, "<init>", "()V"⟩
abbrev cX7_copy : ByteArray := prog_10_method_2_code
def yX7_copy : MethodName := ⟨RX7, "copy", "(LObjectRulesModel$Keys;)V"⟩
abbrev cX7_add : ByteArray := prog_10_method_3_code
def yX7_add : MethodName := ⟨RX7, "add", "(I)V"⟩
abbrev cX7_find : ByteArray := prog_10_method_4_code
def yX7_find : MethodName := ⟨RX7, "find", "(I)I"⟩
def RX8 : String := "ObjectRulesModel$Stop"
def TX8 : u_T := fun k => match k with
  | 0 => ("java/lang/Throwable", "cause", "Ljava/lang/Throwable;", false)
  | 1 => ("java/lang/Throwable", "stackTrace", "[Ljava/lang/StackTraceElement;", false)
  | 2 => ("java/lang/Throwable", "suppressedExceptions", "Ljava/util/List;", false)
  | 3 => ("java/lang/Throwable", "detailMessage", "Ljava/lang/String;", false)
  | 4 => ("java/lang/Throwable", "backtrace", "Ljava/lang/Object;", false)
  | 5 => ("java/lang/Throwable", "depth", "I", false)
  | _ => ("ObjectRulesModel$Stop", "code", "I", true)
def tyX8 : Nat → FieldType := fun k => match k with
  | 0 => .object "java/lang/Throwable"
  | 1 => .array (.object "java/lang/StackTraceElement")
  | 2 => .object "java/util/List"
  | 3 => .object "java/lang/String"
  | 4 => .object "java/lang/Object"
  | 5 => .int
  | _ => .int
abbrev wsX80 : List Cond := u_ws RX8 TX8 7
theorem nmX8 : ∀ a, a < 7 → ∀ b, b < 7 → a ≠ b → (TX8 a).2.1 ≠ (TX8 b).2.1 := by decide +kernel
theorem tyX8_ok : ∀ k, k < 7 → parseFieldDescriptor (TX8 k).2.2.1 = some (tyX8 k) := by decide +kernel
abbrev cX8_init : ByteArray := prog_11_method_1_code
def yX8_init : MethodName := ⟨RX8, "<init>", "(I)V"⟩
def RX9 : String := "ObjectRulesModel"
def TX9 : u_T := fun k => match k with
  | 0 => ("ObjectRulesModel", "thrown", "I", false)
  | 1 => ("ObjectRulesModel", "objects", "I", false)
  | 2 => ("ObjectRulesModel", "type", "[I", true)
  | 3 => ("ObjectRulesModel", "proto", "[I", true)
  | 4 => ("ObjectRulesModel", "target", "[I", true)
  | 5 => ("ObjectRulesModel", "handler", "[I", true)
  | 6 => ("ObjectRulesModel", "act", "[I", true)
  | 7 => ("ObjectRulesModel", "actKey", "[I", true)
  | 8 => ("ObjectRulesModel", "actValue", "[I", true)
  | 9 => ("ObjectRulesModel", "closed", "[Z", true)
  | 10 => ("ObjectRulesModel", "first", "[I", true)
  | 11 => ("ObjectRulesModel", "next", "[I", true)
  | 12 => ("ObjectRulesModel", "keyOf", "[I", true)
  | 13 => ("ObjectRulesModel", "valueOf", "[I", true)
  | 14 => ("ObjectRulesModel", "getOf", "[I", true)
  | 15 => ("ObjectRulesModel", "setOf", "[I", true)
  | 16 => ("ObjectRulesModel", "accessor", "[Z", true)
  | 17 => ("ObjectRulesModel", "writable", "[Z", true)
  | 18 => ("ObjectRulesModel", "enumerable", "[Z", true)
  | 19 => ("ObjectRulesModel", "configurable", "[Z", true)
  | 20 => ("ObjectRulesModel", "free", "I", false)
  | 21 => ("ObjectRulesModel", "properties", "I", false)
  | 22 => ("ObjectRulesModel", "held", "[I", true)
  | 23 => ("ObjectRulesModel", "helds", "I", false)
  | 24 => ("ObjectRulesModel", "called", "[I", true)
  | 25 => ("ObjectRulesModel", "calls", "I", false)
  | 26 => ("ObjectRulesModel", "depth", "I", false)
  | 27 => ("ObjectRulesModel", "latest", "I", false)
  | 28 => ("ObjectRulesModel", "descs", "[LObjectRulesModel$Desc;", true)
  | 29 => ("ObjectRulesModel", "lists", "[LObjectRulesModel$Keys;", true)
  | 30 => ("ObjectRulesModel", "descTop", "I", false)
  | _ => ("ObjectRulesModel", "listTop", "I", false)
def tyX9 : Nat → FieldType := fun k => match k with
  | 0 => .int
  | 1 => .int
  | 2 => .array .int
  | 3 => .array .int
  | 4 => .array .int
  | 5 => .array .int
  | 6 => .array .int
  | 7 => .array .int
  | 8 => .array .int
  | 9 => .array .boolean
  | 10 => .array .int
  | 11 => .array .int
  | 12 => .array .int
  | 13 => .array .int
  | 14 => .array .int
  | 15 => .array .int
  | 16 => .array .boolean
  | 17 => .array .boolean
  | 18 => .array .boolean
  | 19 => .array .boolean
  | 20 => .int
  | 21 => .int
  | 22 => .array .int
  | 23 => .int
  | 24 => .array .int
  | 25 => .int
  | 26 => .int
  | 27 => .int
  | 28 => .array (.object "ObjectRulesModel$Desc")
  | 29 => .array (.object "ObjectRulesModel$Keys")
  | 30 => .int
  | _ => .int
abbrev wsX90 : List Cond := u_ws RX9 TX9 32
theorem nmX9 : ∀ a, a < 32 → ∀ b, b < 32 → a ≠ b → (TX9 a).2.1 ≠ (TX9 b).2.1 := by decide +kernel
theorem tyX9_ok : ∀ k, k < 32 → parseFieldDescriptor (TX9 k).2.2.1 = some (tyX9 k) := by decide +kernel
abbrev cX9_init : ByteArray := prog_8_method_1_code
def yX9_init : MethodName := ⟨RX9, "<init>", "()V"⟩
abbrev cX9_thrown : ByteArray := prog_8_method_2_code
def yX9_thrown : MethodName := ⟨RX9, "thrown", "()I"⟩
abbrev cX9_desc : ByteArray := prog_8_method_3_code
def yX9_desc : MethodName := ⟨RX9, "desc", "()LObjectRulesModel$Desc;"⟩
abbrev cX9_keep : ByteArray := prog_8_method_4_code
def yX9_keep : MethodName := ⟨RX9, "keep", "(ILObjectRulesModel$Desc;)LObjectRulesModel$Desc;"⟩
abbrev cX9_list : ByteArray := prog_8_method_5_code
def yX9_list : MethodName := ⟨RX9, "list", "()LObjectRulesModel$Keys;"⟩
abbrev cX9_keep_ : ByteArray := prog_8_method_6_code
def yX9_keep_ : MethodName := ⟨RX9, "keep", "(ILObjectRulesModel$Keys;)LObjectRulesModel$Keys;"⟩
abbrev cX9_isObject : ByteArray := prog_8_method_7_code
def yX9_isObject : MethodName := ⟨RX9, "isObject", "(I)Z"⟩
abbrev cX9_object : ByteArray := prog_8_method_8_code
def yX9_object : MethodName := ⟨RX9, "object", "(I)I"⟩
abbrev cX9_valueOfObject : ByteArray := prog_8_method_9_code
def yX9_valueOfObject : MethodName := ⟨RX9, "valueOfObject", "(I)I"⟩
abbrev cX9_isThere : ByteArray := prog_8_method_10_code
def yX9_isThere : MethodName := ⟨RX9, "isThere", "(I)Z"⟩
abbrev cX9_isValue : ByteArray := prog_8_method_11_code
def yX9_isValue : MethodName := ⟨RX9, "isValue", "(I)Z"⟩
abbrev cX9_isKey : ByteArray := prog_8_method_12_code
def yX9_isKey : MethodName := ⟨RX9, "isKey", "(I)Z"⟩
abbrev cX9_isCallable : ByteArray := prog_8_method_13_code
def yX9_isCallable : MethodName := ⟨RX9, "isCallable", "(I)Z"⟩
abbrev cX9_truth : ByteArray := prog_8_method_14_code
def yX9_truth : MethodName := ⟨RX9, "truth", "(I)Z"⟩
abbrev cX9_illegal : ByteArray := prog_8_method_15_code
def yX9_illegal : MethodName := ⟨RX9, "illegal", "(Z)V"⟩
abbrev cX9_number : ByteArray := prog_8_method_16_code
def yX9_number : MethodName := ⟨RX9, "number", "(I)I"⟩
abbrev cX9_propertyKey : ByteArray := prog_8_method_17_code
def yX9_propertyKey : MethodName := ⟨RX9, "propertyKey", "(I)I"⟩
abbrev cX9_newObject : ByteArray := prog_8_method_18_code
def yX9_newObject : MethodName := ⟨RX9, "newObject", "(II)I"⟩
abbrev cX9_newArray : ByteArray := prog_8_method_19_code
def yX9_newArray : MethodName := ⟨RX9, "newArray", "(I)I"⟩
abbrev cX9_property : ByteArray := prog_8_method_20_code
def yX9_property : MethodName := ⟨RX9, "property", "(II)I"⟩
abbrev cX9_newProperty : ByteArray := prog_8_method_21_code
def yX9_newProperty : MethodName := ⟨RX9, "newProperty", "(II)I"⟩
abbrev cX9_removeProperty : ByteArray := prog_8_method_22_code
def yX9_removeProperty : MethodName := ⟨RX9, "removeProperty", "(II)V"⟩
abbrev cX9_descOf : ByteArray := prog_8_method_23_code
def yX9_descOf : MethodName := ⟨RX9, "descOf", "(I)LObjectRulesModel$Desc;"⟩
abbrev cX9_fromDescriptor : ByteArray := prog_8_method_24_code
def yX9_fromDescriptor : MethodName := ⟨RX9, "fromDescriptor", "(LObjectRulesModel$Desc;)I"⟩
abbrev cX9_created : ByteArray := prog_8_method_25_code
def yX9_created : MethodName := ⟨RX9, "created", "(III)V"⟩
abbrev cX9_createData : ByteArray := prog_8_method_26_code
def yX9_createData : MethodName := ⟨RX9, "createData", "(III)Z"⟩
abbrev cX9_toDescriptor : ByteArray := prog_8_method_27_code
def yX9_toDescriptor : MethodName := ⟨RX9, "toDescriptor", "(I)LObjectRulesModel$Desc;"⟩
abbrev cX9_complete : ByteArray := prog_8_method_28_code
def yX9_complete : MethodName := ⟨RX9, "complete", "(LObjectRulesModel$Desc;)V"⟩
abbrev cX9_apply : ByteArray := prog_8_method_29_code
def yX9_apply : MethodName := ⟨RX9, "apply", "(IIZLObjectRulesModel$Desc;LObjectRulesModel$Desc;)Z"⟩
abbrev cX9_ordinaryOwn : ByteArray := prog_8_method_30_code
def yX9_ordinaryOwn : MethodName := ⟨RX9, "ordinaryOwn", "(II)LObjectRulesModel$Desc;"⟩
abbrev cX9_ordinaryDefine : ByteArray := prog_8_method_31_code
def yX9_ordinaryDefine : MethodName := ⟨RX9, "ordinaryDefine", "(IILObjectRulesModel$Desc;)Z"⟩
abbrev cX9_setOrdinaryParent : ByteArray := prog_8_method_32_code
def yX9_setOrdinaryParent : MethodName := ⟨RX9, "setOrdinaryParent", "(II)Z"⟩
abbrev cX9_ordinaryKeys : ByteArray := prog_8_method_33_code
def yX9_ordinaryKeys : MethodName := ⟨RX9, "ordinaryKeys", "(I)LObjectRulesModel$Keys;"⟩
abbrev cX9_arrayDefine : ByteArray := prog_8_method_34_code
def yX9_arrayDefine : MethodName := ⟨RX9, "arrayDefine", "(IILObjectRulesModel$Desc;)Z"⟩
abbrev cX9_setLength : ByteArray := prog_8_method_35_code
def yX9_setLength : MethodName := ⟨RX9, "setLength", "(ILObjectRulesModel$Desc;)Z"⟩
abbrev cX9_setLength_ : ByteArray := prog_8_method_36_code
def yX9_setLength_ : MethodName := ⟨RX9, "setLength", "(ILObjectRulesModel$Desc;LObjectRulesModel$Desc;)Z"⟩
abbrev cX9_ordinaryDelete : ByteArray := prog_8_method_37_code
def yX9_ordinaryDelete : MethodName := ⟨RX9, "ordinaryDelete", "(II)Z"⟩
abbrev cX9_enter : ByteArray := prog_8_method_38_code
def yX9_enter : MethodName := ⟨RX9, "enter", "()V"⟩
abbrev cX9_leave : ByteArray := prog_8_method_39_code
def yX9_leave : MethodName := ⟨RX9, "leave", "()V"⟩
abbrev cX9_run : ByteArray := prog_8_method_40_code
def yX9_run : MethodName := ⟨RX9, "run", "(IIIIIII)I"⟩
abbrev cX9_acted : ByteArray := prog_8_method_41_code
def yX9_acted : MethodName := ⟨RX9, "acted", "(IIIIIII)I"⟩
abbrev cX9_reflect : ByteArray := prog_8_method_42_code
def yX9_reflect : MethodName := ⟨RX9, "reflect", "(IIIII)I"⟩
abbrev cX9_fromKeys : ByteArray := prog_8_method_43_code
def yX9_fromKeys : MethodName := ⟨RX9, "fromKeys", "(LObjectRulesModel$Keys;)I"⟩
abbrev cX9_trapOf : ByteArray := prog_8_method_44_code
def yX9_trapOf : MethodName := ⟨RX9, "trapOf", "(II)I"⟩
abbrev cX9_enterProxy : ByteArray := prog_8_method_45_code
def yX9_enterProxy : MethodName := ⟨RX9, "enterProxy", "(I)V"⟩
abbrev cX9_must : ByteArray := prog_8_method_46_code
def yX9_must : MethodName := ⟨RX9, "must", "(Z)V"⟩
abbrev cX9_parentOf : ByteArray := prog_8_method_47_code
def yX9_parentOf : MethodName := ⟨RX9, "parentOf", "(I)I"⟩
abbrev cX9_setParentOf : ByteArray := prog_8_method_48_code
def yX9_setParentOf : MethodName := ⟨RX9, "setParentOf", "(II)Z"⟩
abbrev cX9_isOpen : ByteArray := prog_8_method_49_code
def yX9_isOpen : MethodName := ⟨RX9, "isOpen", "(I)Z"⟩
abbrev cX9_prevent : ByteArray := prog_8_method_50_code
def yX9_prevent : MethodName := ⟨RX9, "prevent", "(I)Z"⟩
abbrev cX9_own : ByteArray := prog_8_method_51_code
def yX9_own : MethodName := ⟨RX9, "own", "(II)LObjectRulesModel$Desc;"⟩
abbrev cX9_trappedOwn : ByteArray := prog_8_method_52_code
def yX9_trappedOwn : MethodName := ⟨RX9, "trappedOwn", "(IIII)LObjectRulesModel$Desc;"⟩
abbrev cX9_define : ByteArray := prog_8_method_53_code
def yX9_define : MethodName := ⟨RX9, "define", "(IILObjectRulesModel$Desc;)Z"⟩
abbrev cX9_trappedDefine : ByteArray := prog_8_method_54_code
def yX9_trappedDefine : MethodName := ⟨RX9, "trappedDefine", "(IIIILObjectRulesModel$Desc;)Z"⟩
abbrev cX9_has : ByteArray := prog_8_method_55_code
def yX9_has : MethodName := ⟨RX9, "has", "(II)Z"⟩
abbrev cX9_get : ByteArray := prog_8_method_56_code
def yX9_get : MethodName := ⟨RX9, "get", "(III)I"⟩
abbrev cX9_set : ByteArray := prog_8_method_57_code
def yX9_set : MethodName := ⟨RX9, "set", "(IIII)Z"⟩
abbrev cX9_ordinarySet : ByteArray := prog_8_method_58_code
def yX9_ordinarySet : MethodName := ⟨RX9, "ordinarySet", "(IIII)Z"⟩
abbrev cX9_delete : ByteArray := prog_8_method_59_code
def yX9_delete : MethodName := ⟨RX9, "delete", "(II)Z"⟩
abbrev cX9_keys : ByteArray := prog_8_method_60_code
def yX9_keys : MethodName := ⟨RX9, "keys", "(I)LObjectRulesModel$Keys;"⟩
abbrev cX9_trappedKeys : ByteArray := prog_8_method_61_code
def yX9_trappedKeys : MethodName := ⟨RX9, "trappedKeys", "(III)LObjectRulesModel$Keys;"⟩
abbrev cX9_listOf : ByteArray := prog_8_method_62_code
def yX9_listOf : MethodName := ⟨RX9, "listOf", "(I)LObjectRulesModel$Keys;"⟩
abbrev cX9_begin : ByteArray := prog_8_method_63_code
def yX9_begin : MethodName := ⟨RX9, "begin", "()V"⟩
abbrev cX9_stopped : ByteArray := prog_8_method_64_code
def yX9_stopped : MethodName := ⟨RX9, "stopped", "(LObjectRulesModel$Stop;)I"⟩
abbrev cX9_objectOf : ByteArray := prog_8_method_65_code
def yX9_objectOf : MethodName := ⟨RX9, "objectOf", "(I)I"⟩
abbrev cX9_fails : ByteArray := prog_8_method_66_code
def yX9_fails : MethodName := ⟨RX9, "fails", "(I)I"⟩
abbrev cX9_make : ByteArray := prog_8_method_67_code
def yX9_make : MethodName := ⟨RX9, "make", "(I)I"⟩
abbrev cX9_array : ByteArray := prog_8_method_68_code
def yX9_array : MethodName := ⟨RX9, "array", "(I)I"⟩
abbrev cX9_function : ByteArray := prog_8_method_69_code
def yX9_function : MethodName := ⟨RX9, "function", "(III)I"⟩
abbrev cX9_proxy : ByteArray := prog_8_method_70_code
def yX9_proxy : MethodName := ⟨RX9, "proxy", "(II)I"⟩
abbrev cX9_revoke : ByteArray := prog_8_method_71_code
def yX9_revoke : MethodName := ⟨RX9, "revoke", "(I)Z"⟩
abbrev cX9_get_ : ByteArray := prog_8_method_72_code
def yX9_get_ : MethodName := ⟨RX9, "get", "(IIIZ)I"⟩
abbrev cX9_set_ : ByteArray := prog_8_method_73_code
def yX9_set_ : MethodName := ⟨RX9, "set", "(IIIIZ)Z"⟩
abbrev cX9_has_ : ByteArray := prog_8_method_74_code
def yX9_has_ : MethodName := ⟨RX9, "has", "(IIZ)Z"⟩
abbrev cX9_remove : ByteArray := prog_8_method_75_code
def yX9_remove : MethodName := ⟨RX9, "remove", "(II)Z"⟩
abbrev cX9_define_ : ByteArray := prog_8_method_76_code
def yX9_define_ : MethodName := ⟨RX9, "define", "(IIIII)Z"⟩
abbrev cX9_about : ByteArray := prog_8_method_77_code
def yX9_about : MethodName := ⟨RX9, "about", "(III)I"⟩
abbrev cX9_keys_ : ByteArray := prog_8_method_78_code
def yX9_keys_ : MethodName := ⟨RX9, "keys", "(IZ)I"⟩
abbrev cX9_key : ByteArray := prog_8_method_79_code
def yX9_key : MethodName := ⟨RX9, "key", "(I)I"⟩
abbrev cX9_parent : ByteArray := prog_8_method_80_code
def yX9_parent : MethodName := ⟨RX9, "parent", "(I)I"⟩
abbrev cX9_setParent : ByteArray := prog_8_method_81_code
def yX9_setParent : MethodName := ⟨RX9, "setParent", "(II)Z"⟩
abbrev cX9_open : ByteArray := prog_8_method_82_code
def yX9_open : MethodName := ⟨RX9, "open", "(I)Z"⟩
abbrev cX9_shut : ByteArray := prog_8_method_83_code
def yX9_shut : MethodName := ⟨RX9, "shut", "(I)Z"⟩
abbrev cX9_level : ByteArray := prog_8_method_84_code
def yX9_level : MethodName := ⟨RX9, "level", "(IZZ)Z"⟩
abbrev cX9_hasLevel : ByteArray := prog_8_method_85_code
def yX9_hasLevel : MethodName := ⟨RX9, "hasLevel", "(IZ)Z"⟩
abbrev cX9_setLevel : ByteArray := prog_8_method_86_code
def yX9_setLevel : MethodName := ⟨RX9, "setLevel", "(IZ)Z"⟩
abbrev cX9_assign : ByteArray := prog_8_method_87_code
def yX9_assign : MethodName := ⟨RX9, "assign", "(II)I"⟩
abbrev cX9_call : ByteArray := prog_8_method_88_code
def yX9_call : MethodName := ⟨RX9, "call", "(I)I"⟩
abbrev cX9_count : ByteArray := prog_8_method_89_code
def yX9_count : MethodName := ⟨RX9, "count", "(I)I"⟩
def RL : String := "ObjectRulesLaw"
abbrev cL_make : ByteArray := method_3_code
def yL_make : MethodName := ⟨RL, "make", "(LObjectRules;I[J)I"⟩
abbrev cL_array : ByteArray := method_4_code
def yL_array : MethodName := ⟨RL, "array", "(LObjectRules;I[J)I"⟩
abbrev cL_function : ByteArray := method_5_code
def yL_function : MethodName := ⟨RL, "function", "(LObjectRules;III[J)I"⟩
abbrev cL_proxy : ByteArray := method_6_code
def yL_proxy : MethodName := ⟨RL, "proxy", "(LObjectRules;II[J)I"⟩
abbrev cL_revoke : ByteArray := method_7_code
def yL_revoke : MethodName := ⟨RL, "revoke", "(LObjectRules;I[J)I"⟩
abbrev cL_get : ByteArray := method_8_code
def yL_get : MethodName := ⟨RL, "get", "(LObjectRules;IIIZ[J)I"⟩
abbrev cL_set : ByteArray := method_9_code
def yL_set : MethodName := ⟨RL, "set", "(LObjectRules;IIIIZ[J)I"⟩
abbrev cL_has : ByteArray := method_10_code
def yL_has : MethodName := ⟨RL, "has", "(LObjectRules;IIZ[J)I"⟩
abbrev cL_remove : ByteArray := method_11_code
def yL_remove : MethodName := ⟨RL, "remove", "(LObjectRules;II[J)I"⟩
abbrev cL_define : ByteArray := method_12_code
def yL_define : MethodName := ⟨RL, "define", "(LObjectRules;IIIII[J)I"⟩
abbrev cL_about : ByteArray := method_13_code
def yL_about : MethodName := ⟨RL, "about", "(LObjectRules;III[J)I"⟩
abbrev cL_keys : ByteArray := method_14_code
def yL_keys : MethodName := ⟨RL, "keys", "(LObjectRules;IZ[J)I"⟩
abbrev cL_key : ByteArray := method_15_code
def yL_key : MethodName := ⟨RL, "key", "(LObjectRules;I[J)I"⟩
abbrev cL_parent : ByteArray := method_16_code
def yL_parent : MethodName := ⟨RL, "parent", "(LObjectRules;I[J)I"⟩
abbrev cL_setParent : ByteArray := method_17_code
def yL_setParent : MethodName := ⟨RL, "setParent", "(LObjectRules;II[J)I"⟩
abbrev cL_open : ByteArray := method_18_code
def yL_open : MethodName := ⟨RL, "open", "(LObjectRules;I[J)I"⟩
abbrev cL_shut : ByteArray := method_19_code
def yL_shut : MethodName := ⟨RL, "shut", "(LObjectRules;I[J)I"⟩
abbrev cL_level : ByteArray := method_20_code
def yL_level : MethodName := ⟨RL, "level", "(LObjectRules;IZZ[J)I"⟩
abbrev cL_assign : ByteArray := method_21_code
def yL_assign : MethodName := ⟨RL, "assign", "(LObjectRules;II[J)I"⟩
abbrev cL_count : ByteArray := method_22_code
def yL_count : MethodName := ⟨RL, "count", "(LObjectRules;I[J)I"⟩
abbrev cL_law : ByteArray := code
def yL_law : MethodName := ⟨RL, "law", "([I)Z"⟩
abbrev vwCl : List vw_C := [(RX0, TX0, 5), (RX1, TX1, 1), (RX2, TX2, 3), (RX3, TX3, 14), (RX4, TX4, 3), (RX5, TX5, 12), (RX6, TX6, 12), (RX7, TX7, 2), (RX8, TX8, 7), (RX9, TX9, 32)]
end
section
/-! the words that every method here takes: all the good ones of the tables -/
def xb : List Cond := lw_tbl.filter goodWord
theorem xb_in {w : Cond} (h : w ∈ xb) : w ∈ lw_tbl := (List.mem_filter.mp h).1
theorem xb_ok {w : Cond} (h : w ∈ xb) : w ∈ xb ∧ ((w.onTables && w.keeps) = true ∨ ∃ ty, w = .arrayClass ty) := ⟨h, good_of_word (List.mem_filter.mp h).2⟩
theorem xb_mk {w : Cond} (h : w ∈ lw_tbl) (g : goodWord w = true) : w ∈ xb := List.mem_filter.mpr ⟨h, g⟩
abbrev xw (y : MethodName) (c : ByteArray) (n : Nat) (r : Option FieldType) : List Cond := Cond.code y c n r :: xb
abbrev xwh (y : MethodName) (c : ByteArray) (n : Nat) (r : Option FieldType) (hh : List (Nat × Nat × Nat × Nat)) : List Cond := Cond.codeWith y c n r hh :: xb
theorem xg_c {c0 : Cond} (h : c0 ∈ xb) : GoodIn xb (c0 :: xb) := fun w hw => (List.mem_cons.mp hw).elim (fun e => by rw [e]; exact xb_ok h) xb_ok
theorem xg_V {own C : String} {idx : Nat} {y : MethodName} {c0 : Cond} (h1 : Cond.methodLink own idx y ∈ xb) (h2 : Cond.instanceMethod y ∈ xb) (h3 : Cond.selects C y y ∈ xb) (h4 : Cond.initialized C ∈ xb) (h5 : c0 ∈ xb) : GoodIn xb (wsV own idx C y (c0 :: xb)) := by
  intro w hw
  unfold wsV at hw
  rcases List.mem_append.mp hw with h | h
  · simp only [List.mem_cons, List.not_mem_nil, or_false] at h
    rcases h with rfl | rfl | rfl | rfl
    · exact xb_ok h1
    · exact xb_ok h2
    · exact xb_ok h3
    · exact xb_ok h4
  · exact xg_c h5 w h
theorem xg_S {own : String} {idx : Nat} {y : MethodName} {c0 : Cond} (h1 : Cond.methodLink own idx y ∈ xb) (h2 : Cond.static y ∈ xb) (h4 : Cond.initialized own ∈ xb) (h5 : c0 ∈ xb) : GoodIn xb (wsS own idx y (c0 :: xb)) := by
  intro w hw
  unfold wsS at hw
  rcases List.mem_append.mp hw with h | h
  · simp only [List.mem_cons, List.not_mem_nil, or_false] at h
    rcases h with rfl | rfl | rfl
    · exact xb_ok h1
    · exact xb_ok h2
    · exact xb_ok h4
  · exact xg_c h5 w h
theorem xg_T {own : String} {idx : Nat} {y : MethodName} {c0 : Cond} (h1 : Cond.methodLink own idx y ∈ xb) (h2 : Cond.static y ∈ xb) (h4 : Cond.initialized y.cls ∈ xb) (h5 : c0 ∈ xb) : GoodIn xb (va_wsS own idx y (c0 :: xb)) := by
  intro w hw
  unfold va_wsS at hw
  rcases List.mem_append.mp hw with h | h
  · simp only [List.mem_cons, List.not_mem_nil, or_false] at h
    rcases h with rfl | rfl | rfl
    · exact xb_ok h1
    · exact xb_ok h2
    · exact xb_ok h4
  · exact xg_c h5 w h
/-! what else a state must bear: words that the tables decide, Strings, two statics, three classes of arrays -/
def xn : List Cond := [.castable "java/lang/IllegalArgumentException" "java/lang/IllegalArgumentException", .castable "java/lang/IndexOutOfBoundsException" "java/lang/IndexOutOfBoundsException", .castable "ObjectRulesModel$Stop" "ObjectRulesModel$Stop",
  .declares (Jvm.Bundle.initS "java/lang/RuntimeException"), .declares (Jvm.Bundle.initS "java/lang/Exception"), .declares (Jvm.Bundle.initS "java/lang/Throwable"),
  .methodLinkNest "ObjectRules$Descriptors" 17 yX0_init "ObjectRules", .methodLinkNest "ObjectRules" 25 yX2_init "ObjectRules", .methodLinkNest "ObjectRules" 32 yX4_init "ObjectRules", .methodLinkNest "ObjectRules" 39 yX0_init "ObjectRules"]
theorem xn_on : ∀ w ∈ xn, w.onTables = true := by decide +kernel
theorem xn_warm {s U : State} (hW : s.WarmedH U.vm) : ∀ w ∈ xn, va_Nw w s → va_Nw w U := by
  intro w hw hZ
  simp only [xn, List.mem_cons, List.not_mem_nil, or_false] at hw
  rcases hw with rfl | rfl | rfl | rfl | rfl | rfl | rfl | rfl | rfl | rfl
  · exact va_Nw.warmC hW hZ
  · exact va_Nw.warmC hW hZ
  · exact va_Nw.warmC hW hZ
  · exact va_Nw.warmD hW hZ
  · exact va_Nw.warmD hW hZ
  · exact va_Nw.warmD hW hZ
  · exact va_Nw.warmM hW hZ
  · exact va_Nw.warmM hW hZ
  · exact va_Nw.warmM hW hZ
  · exact va_Nw.warmM hW hZ
def xs : List (Nat × String) := [(68, "a length is 0 to 100"), (76, "an act is 0 to 5"), (99, "no PROXY"), (219, "no OBJECT"), (221, "no KEY"), (223, "no VALUE"), (177, "no such one of THE KEYS"), (208, "count tells 0 to 3")]
abbrev xB (b0 : Nat) : Nat → Prop := fun q => b0 ≤ q
def xE (b0 : Nat) (U : State) : Prop := b0 ≤ U.heap.size ∧ (∀ w ∈ xn, va_Nw w U) ∧ (∀ z ∈ xs, ∃ q, vk_R RX5 z.1 z.2 q U) ∧ vx_Zq Jvm.Bundle.tN "UNASSIGNED_STACK" Jvm.Bundle.steD (xB b0) U U.heap ∧ vx_Zq Jvm.Bundle.tN "SUPPRESSED_SENTINEL" Jvm.Bundle.listD (xB b0) U U.heap ∧ va_AO "ObjectRules$Descriptor" U ∧ va_AO "ObjectRulesModel$Desc" U ∧ va_AO "ObjectRulesModel$Keys" U
theorem xE.at {b0 : Nat} {s U : State} {A : Nat → Prop} {H : Heap} {locs : List Loc} (h : xE b0 s) (hS : va_S A s.heap H locs) (hAb : ∀ q, A q → b0 ≤ q) (hU : U.heap = H) (hW : s.WarmedH U.vm) : xE b0 U := by
  obtain ⟨h1, h2, h3, h4, h5, h6, h7, h8⟩ := h
  refine ⟨by rw [hU]; exact Nat.le_trans h1 hS.1, fun w hw => xn_warm hW w hw (h2 w hw), fun z hz => ?_, ?_, ?_, va_AO.moved hW.alike h6, va_AO.moved hW.alike h7, va_AO.moved hW.alike h8⟩
  · obtain ⟨q, hq⟩ := h3 z hz
    exact ⟨q, vk_R.warm hW hq⟩
  · rw [hU]; exact vx_Zq.moved hW.alike (h4.kept (fun a ha hn => hS.2.1 a ha (fun z => hn (hAb _ z))))
  · rw [hU]; exact vx_Zq.moved hW.alike (h5.kept (fun a ha hn => hS.2.1 a ha (fun z => hn (hAb _ z))))
theorem xE.nw {b0 : Nat} {s : State} (h : xE b0 s) {w : Cond} (hw : w ∈ xn) : va_Nw w s := h.2.1 w hw
theorem xE.use {b0 : Nat} {s : State} {args : Array Value} (h : xE b0 s) {w : Cond} (hw : w ∈ xn) : w.before args s = true := va_Nw.use (xn_on w hw) (h.2.1 w hw)
/-! the arrays' classes, one for each kind of component -/
abbrev xTY (C : Nat → ClassId) : List (ClassId × FieldType) := [(C 0, .int), (C 1, .boolean), (C 2, .long), (C 3, .object "ObjectRules$Descriptor"), (C 4, .object "ObjectRulesModel$Desc"), (C 5, .object "ObjectRulesModel$Keys")]
theorem x_tyI {D : va_G} {C : Nat → ClassId} {cA : ClassId} {s : State} (hK : va_K D vwCl (xTY C ++ [(cA, .int)]) s) : cA = C 0 := by
  have h1 : s.vm.findClass ("[" ++ FieldType.int.toString) = some (C 0) := (hK.2 0 _ rfl).2
  have h2 : s.vm.findClass ("[" ++ FieldType.int.toString) = some cA := (hK.2 6 _ rfl).2
  exact Option.some.inj (h2.symm.trans h1)
theorem x_tyZ {D : va_G} {C : Nat → ClassId} {cA : ClassId} {s : State} (hK : va_K D vwCl (xTY C ++ [(cA, .boolean)]) s) : cA = C 1 := by
  have h1 : s.vm.findClass ("[" ++ FieldType.boolean.toString) = some (C 1) := (hK.2 1 _ rfl).2
  have h2 : s.vm.findClass ("[" ++ FieldType.boolean.toString) = some cA := (hK.2 6 _ rfl).2
  exact Option.some.inj (h2.symm.trans h1)
theorem x_tyJ {D : va_G} {C : Nat → ClassId} {cA : ClassId} {s : State} (hK : va_K D vwCl (xTY C ++ [(cA, .long)]) s) : cA = C 2 := by
  have h1 : s.vm.findClass ("[" ++ FieldType.long.toString) = some (C 2) := (hK.2 2 _ rfl).2
  have h2 : s.vm.findClass ("[" ++ FieldType.long.toString) = some cA := (hK.2 6 _ rfl).2
  exact Option.some.inj (h2.symm.trans h1)
theorem x_tyO {D : va_G} {C : Nat → ClassId} {cA : ClassId} {s : State} {n : String} {k : Nat} {tys : List (ClassId × FieldType)} (hK : va_K D vwCl (tys ++ [(cA, .object n)]) s) (hk : tys[k]? = some (C k, .object n)) : cA = C k := by
  have hl : k < tys.length := (List.getElem?_eq_some_iff.mp hk).1
  obtain ⟨kA, comp, -, -, -, h1⟩ := (hK.2 k _ (by rw [List.getElem?_append_left hl]; exact hk)).2
  obtain ⟨kB, comp2, -, -, -, h2⟩ := (hK.2 tys.length _ (by rw [List.getElem?_append_right (Nat.le_refl _), Nat.sub_self]; rfl)).2
  exact Option.some.inj (h2.symm.trans h1)
/-! a method's start -/
def xPc (D : va_G) (C : Nat → ClassId) (b0 : Nat) (av : List Value) (ws : va_W) (sz : Nat) : Array Value → State → Prop := va_Pc av (fun U => U.heap.size = sz ∧ va_P D vwCl ws U.heap ∧ va_K D vwCl (xTY C) U ∧ va_D (xB b0) ws ∧ xE b0 U)
theorem xPc_bl {D : va_G} {C : Nat → ClassId} {b0 sz : Nat} {av : List Value} {ws : va_W} : FrameBlind (xPc D C b0 av ws sz) := by
  intro a U g mk q
  obtain ⟨q0, q1, qP, qK, qD, qE⟩ := q
  exact ⟨q0, q1, qP, va_K.moved (u := U) (U := U.calling g mk a) (Vm.Alike.refl U.vm) qK, qD, xE.at (A := fun _ => False) (U := U.calling g mk a) (H := U.heap) (locs := []) qE va_S.rf (fun _ h => h.elim) rfl (State.WarmedH.refl U)⟩
theorem xPc_at {D : va_G} {C : Nat → ClassId} {b0 : Nat} {av : List Value} {ws : va_W} {s : State} {A : Nat → Prop} {H : Heap} {locs : List Loc} (hP : va_P D vwCl ws H) (hK : va_K D vwCl (xTY C) s) (hD : va_D A ws) (hE : xE b0 s) (hS : va_S A s.heap H locs) (hAb : ∀ q, A q → b0 ≤ q) : ∀ U : State, U.heap = H → s.WarmedH U.vm → xPc D C b0 av ws H.size av.toArray U :=
  fun U hU hW => ⟨rfl, by rw [hU], by rw [hU]; exact hP, va_K.moved hW.alike hK, hD.weaken (fun _ q _ h => hAb q.1 h), xE.at hE hS hAb hU hW⟩
theorem x_Ab {b0 sz : Nat} {ws : va_W} (hD : va_D (xB b0) ws) (hz : b0 ≤ sz) : ∀ q, va_A ws sz q → b0 ≤ q := by
  intro q h
  rcases h with ⟨k, e, h⟩ | h
  · exact hD.2 k (q, e) h
  · exact Nat.le_trans hz h
/-! what a method leaves: its world -/
abbrev xS : Type := (Nat → Nat) × (Nat → Nat → Int32)
def xBw {S : Type} (D : va_G) (A : Nat → Prop) (W' : S → va_W) : S → State → Prop := fun u t => va_P D vwCl (W' u) t.heap ∧ va_D A (W' u)
def xA (l : List Nat) : Nat → Nat := fun i => l.getD i 0
def xF (l : List (Nat → Int32)) : Nat → Nat → Int32 := fun i => l.getD i (fun _ => 0)
/-! throwing -/
abbrev xIAE : String := "java/lang/IllegalArgumentException"
abbrev xIOB : String := "java/lang/IndexOutOfBoundsException"
abbrev xNm : List String := ["java/lang/RuntimeException", "java/lang/Exception"]
def xX (E0 : String) (P : Prop) (A : Nat → Prop) : Addr → String → State → State → Prop := vx_X (fun _ : Unit => P) (fun _ E _ _ => E = E0) A
section XT
variable {p : Program} {l : Launch} {e : Env} {R : Room} {s : State} {m : MethodId} {args : Array Value} {below : List Frame} {meth : Method} {c : Code} {H : Heap} {locs : List Loc} {cells slots : Nat}
variable {free : Addr → Prop} {Qc : Array Value → State → Outcome → State → Prop} {XC : Addr → String → State → State → Prop}
/-- athrow, with no row of the table that takes it -/
theorem x_athrow {cc : ByteArray} {pc : Nat} {ls : Array Slot} {rest : List Value} {q : Addr} {E : String} {ce : Cell} (hexec : p.tables.exec = Jvm.exec) (hb : c.code = cc) (hd : decode cc pc = .ok (.athrow, 1)) (htab : ∀ x ∈ c.exceptionTable.toList, False) (hlocks : meth.locks = false)
    (hcell : H[q]? = some ce) (hv : ce.vm = .none) (hcl : s.vm.findClass E = some ce.cls) (hx : ∀ t : State, t.heap = H → s.vm.Alike t.vm → XC q E s t) (hf : ∀ z ∈ locs, free z.base) :
    W p l e R s m args below meth c H locs cells slots (vx_MQ below Qc XC args s cells slots free) (F0 m pc ls (.ref q :: rest)) := by
  intro T hT X
  obtain ⟨st1, hrun, hend, hW, hsm⟩ := X.athrowLeaves hexec (g := F0 m pc ls (.ref q :: rest)) rfl rfl rfl (fun x hx => (htab x hx).elim) (a := q) (rest := rest) rfl (by rw [hb]; exact hd) hlocks
  have hcell9 : (T.setFrames (.throwing q :: below)).heap[q]? = some ce := by
    show T.heap[q]? = some ce
    rw [hT]; exact hcell
  exact ⟨_, st1, .threw q, hrun, hend, Or.inr ⟨q, rfl, E, ce, locs, hx _ hT hW.alike, hcell9, hv, hcl, hW, hsm, hf⟩⟩
/-- the table's first row takes it -/
theorem x_find {e : Env} {S : State} {f : JFrame} {a : Addr} {Q : Handler → Pre} {E : CtlPost} {d : Bool} {acts : List Action} {x : ExceptionTableEntry} {t : List ExceptionTableEntry} {k : ClassId} {cell : Cell} (hx : covers x f.pc = true) (h0 : x.catchType ≠ 0)
    (hl : S.vm.ClassLinks e.platform f.method.cls x.catchType k) (hcell : S.heap[a]? = some cell) (hobj : ∀ k, cell.vm ≠ .statics k) (hk : ∃ z, S.vm.classes[cell.cls]? = some z) (hc : ∃ z, S.vm.classes[k]? = some z) (hfit : S.vm.assignable cell.cls k = true) :
    wp (findHandler.go f a (x :: t)) Q E e d acts S ↔ Q (.found x.handlerPc) d acts (S.setVm (S.vm.noted f.method.cls x.catchType (.cls k))) := by
  simp only [covers] at hx
  obtain ⟨ha, ht⟩ := (resolveClass_links e.toSetting hl).op (op := VmOp.resolveClass f.method.cls x.catchType) rfl
  have hal : S.vm.Alike (S.vm.noted f.method.cls x.catchType (.cls k)) := (Vm.Alike.refl S.vm).noted _ _ _
  obtain ⟨k1, hk1⟩ := hk
  obtain ⟨k2, hk2⟩ := hc
  obtain ⟨k3, hk3, -⟩ := hal.2.2 _ _ hk1
  obtain ⟨k4, hk4, -⟩ := hal.2.2 _ _ hk2
  have hfit2 : (S.vm.noted f.method.cls x.catchType (.cls k)).assignable cell.cls k = true := by rw [hal.assignable]; exact hfit
  simp [findHandler.go, hx, h0, ha, ht, hcell, hobj, hk3, hk4, hfit2, VmOp.dirties, VmOp.acts]
theorem x_catch {Q : State → Prop} {pc : Nat} {ls : Array Slot} {rest : List Value} {own name E : String} {ce : Cell} {q : Addr} (hown : s.vm.findClass own = some m.cls) (x : ExceptionTableEntry) (suf : List ExceptionTableEntry) (hsplit : c.exceptionTable.toList = x :: suf)
    (hx : covers x pc = true) (h0 : x.catchType ≠ 0) (hlink : (Cond.classLink own x.catchType name).before args s = true) (hcast : (Cond.castable E name).before args s = true) (hcell : H[q]? = some ce) (hv : ce.vm = .none) (hcl : s.vm.findClass E = some ce.cls)
    (kk : W p l e R s m args below meth c H locs cells slots Q (F0 m x.handlerPc ls [.ref q])) : vx_W p l e R s m args below meth c H locs cells slots Q (F0 m pc ls rest) q := by
  intro T hT X
  have hpl : e.platform.magicAccessors = ({} : Platform).magicAccessors := by rw [X.admits.platform]
  obtain ⟨c3, c4, hc3, hc4, hasg⟩ := Cond.castable_spec hcast
  cases Option.some.inj (hc3.symm.trans hcl)
  obtain ⟨c5, hc5, hl5⟩ := Cond.classLink_spec hown hlink e.platform hpl
  cases Option.some.inj (hc4.symm.trans hc5)
  obtain ⟨k0, hk0, -⟩ := Vm.findClass_spec hcl
  obtain ⟨k5, hk5, -⟩ := Vm.findClass_spec hc4
  obtain ⟨k0', hk0', -⟩ := X.warmed.alike.2.2 _ _ hk0
  obtain ⟨k5', hk5', -⟩ := X.warmed.alike.2.2 _ _ hk5
  obtain ⟨hg1, hw1, hr1⟩ := State.classEntry (e := e) X.warmed hl5
  have X' := X.noted hw1
  obtain ⟨t, a1, b1⟩ := kk (T.setVm (T.vm.noted m.cls x.catchType (.cls c4))) hT X'
  refine ⟨t, ?_, b1⟩
  have hat : At T (F0 m pc ls rest).method c below := X.here
  obtain ⟨hgo, hwi⟩ := hat.throwing q
  have hmeth : T.vm.method? m = some meth := X.method'
  have hfind : ∀ (Q : Handler → Pre) (E : CtlPost) (d : Bool) (acts : List Action), wp (findHandler (F0 m pc ls rest) q) Q E e d acts ((T.setTop (F0 m pc ls rest)).pushFrame (.throwing q)) ↔ Q (.found x.handlerPc) d acts (((T.setTop (F0 m pc ls rest)).pushFrame (.throwing q)).setVm (T.vm.noted m.cls x.catchType (.cls c4))) := by
    intro Q E d acts
    rw [W.findHandler_eq (meth := meth) (code := c) (by rw [Stand.throwing_vm]; exact hmeth) X.code, hsplit]
    have hvm : ((T.setTop (F0 m pc ls rest)).pushFrame (.throwing q)).vm = T.vm := Stand.throwing_vm _ _ _
    have hhp : ((T.setTop (F0 m pc ls rest)).pushFrame (.throwing q)).heap = T.heap := Stand.throwing_heap _ _ _
    have h9 := x_find (e := e) (S := (T.setTop (F0 m pc ls rest)).pushFrame (.throwing q)) (f := F0 m pc ls rest) (a := q) (Q := Q) (E := E) (d := d) (acts := acts) (x := x) (t := suf) (k := c4) (cell := ce) hx h0 (by rw [hvm]; exact X.warmed.classLinks hl5) (by rw [hhp, hT]; exact hcell) (fun k hz => by rw [hv] at hz; cases hz) (by rw [hvm]; exact ⟨_, hk0'⟩) (by rw [hvm]; exact ⟨_, hk5'⟩) (by rw [hvm, X.warmed.alike.assignable]; exact hasg)
    rw [hvm] at h9
    exact h9
  refine Steps.head hgo hwi ?_
  rw [stepThread_throwing (frames_entered hat.top _)]
  have hstep : (stepThrowing e ((T.setTop (F0 m pc ls rest)).pushFrame (.throwing q)) q (.java (F0 m pc ls rest) :: T.frames.tail)).1 = (((T.setTop (F0 m pc ls rest)).pushFrame (.throwing q)).setVm (T.vm.noted m.cls x.catchType (.cls c4))).setFrames (.java { F0 m pc ls rest with pc := x.handlerPc, stack := [.ref q] } :: T.frames.tail) := by
    simp only [stepThrowing, searchFrame, vmDo]
    generalize hr : Sem.go _ e false [] ((T.setTop (F0 m pc ls rest)).pushFrame (.throwing q)) = res
    obtain ⟨as, rfl, ha⟩ := Sem.eq_ok_of hr (a := Handler.found x.handlerPc) (s' := ((T.setTop (F0 m pc ls rest)).pushFrame (.throwing q)).setVm (T.vm.noted m.cls x.catchType (.cls c4))) (acts' := []) (by simp [hfind _ _ _ _])
    rfl
  rw [hstep]
  obtain ⟨g₀, hg⟩ := Option.isSome_iff_exists.mp hat.top
  obtain ⟨r, hr⟩ := State.topJava?_eq_some.mp hg
  have hr2 : (T.setVm (T.vm.noted m.cls x.catchType (.cls c4))).frames = .java g₀ :: r := hr
  rw [State.setTop_of_frames _ hr2] at a1
  rw [State.pushFrame, State.setTop_of_frames _ hr, State.setFrames_setFrames, hr]
  have hco : ∀ (F G : List Frame), ((T.setFrames F).setVm (T.vm.noted m.cls x.catchType (.cls c4))).setFrames G = (T.setVm (T.vm.noted m.cls x.catchType (.cls c4))).setFrames G := fun F G => by
    show ((T.setVm (T.vm.noted m.cls x.catchType (.cls c4))).setFrames F).setFrames G = _
    rw [State.setFrames_setFrames]
  rw [hco]
  exact a1
end XT
/-- the reference's own exception is thrown: its cell, and what else the world holds -/
abbrev xStop (q : Nat) : Nat × va_E := (q, .inr (8, [.null, .null, .null, .null, .null, .int 0, .int 1]))
def xY (D : va_G) (Ws : va_W) (A : Nat → Prop) : Addr → String → State → State → Prop := vx_X (fun _ : Unit => True) (fun q E _ t => E = RX8 ∧ va_P D vwCl (xStop q :: Ws) t.heap ∧ va_D A (xStop q :: Ws)) A
theorem x_cell {D : va_G} {C : Nat → ClassId} {ws : va_W} {H : Heap} {s : State} {q ci k : Nat} {fs : List Value} {r : vw_C} (hP : va_P D vwCl ws H) (hK : va_K D vwCl (xTY C) s) (hk : ws[k]? = some (q, .inr (ci, fs))) (hr : vwCl[ci]? = some r) : ∃ ce, H[q]? = some ce ∧ ce.vm = .none ∧ s.vm.findClass r.1 = some ce.cls := by
  obtain ⟨r2, h1, cell, h2, h3, h4, -⟩ := hP k _ hk
  exact ⟨cell, h2, h4, by rw [h3]; exact (hK.1 ci r hr).2.1⟩
theorem x_gs {C n d : String} {b0 : Nat} {A : Nat → Prop} {s : State} (h : vx_Zq C n d (xB b0) s s.heap) (hAb : ∀ q, A q → b0 ≤ q) : ∃ v : Value, v.isRef = true ∧ va_Z C n d v A s s.heap := by
  rcases va_Zq.narrow h.1 hAb with h | ⟨t, h⟩
  · exact ⟨.null, rfl, h⟩
  · exact ⟨.ref t, rfl, h⟩
end
section
theorem lw_in1 : ∀ w ∈ tables_1_1, w ∈ lw_tbl := fun w h => List.mem_append_right _ (List.mem_append_left _ h)
theorem lw_in2 : ∀ w ∈ tables_1_2, w ∈ lw_tbl := fun w h => List.mem_append_right _ (List.mem_append_right _ (List.mem_append_left _ h))
theorem lw_in3 : ∀ w ∈ tables_1_3, w ∈ lw_tbl := fun w h => List.mem_append_right _ (List.mem_append_right _ (List.mem_append_right _ (List.mem_append_left _ h)))
theorem lw_in4 : ∀ w ∈ tables_1_4, w ∈ lw_tbl := fun w h => List.mem_append_right _ (List.mem_append_right _ (List.mem_append_right _ (List.mem_append_right _ (List.mem_append_left _ h))))
theorem lw_in5 : ∀ w ∈ tables_1_5, w ∈ lw_tbl := fun w h => List.mem_append_right _ (List.mem_append_right _ (List.mem_append_right _ (List.mem_append_right _ (List.mem_append_right _ (List.mem_append_left _ h)))))
theorem lw_in6 : ∀ w ∈ tables_1_6, w ∈ lw_tbl := fun w h => List.mem_append_right _ (List.mem_append_right _ (List.mem_append_right _ (List.mem_append_right _ (List.mem_append_right _ (List.mem_append_right _ (List.mem_append_left _ h))))))
theorem lw_in7 : ∀ w ∈ tables_1_7, w ∈ lw_tbl := fun w h => List.mem_append_right _ (List.mem_append_right _ (List.mem_append_right _ (List.mem_append_right _ (List.mem_append_right _ (List.mem_append_right _ (List.mem_append_right _ (List.mem_append_left _ h)))))))
theorem lw_in8 : ∀ w ∈ tables_1_8, w ∈ lw_tbl := fun w h => List.mem_append_right _ (List.mem_append_right _ (List.mem_append_right _ (List.mem_append_right _ (List.mem_append_right _ (List.mem_append_right _ (List.mem_append_right _ (List.mem_append_right _ (h))))))))
theorem m_0 : (Jvm.Cond.lays "ObjectRules$Descriptor" "ObjectRules$Descriptor" "fields" "I") ∈ xb := xb_mk (lw_in1 _ (List.mem_of_getElem? (i := 107) (by decide +kernel))) (by decide +kernel)
theorem m_1 : (Jvm.Cond.lays "ObjectRules$Descriptor" "ObjectRules$Descriptor" "truths" "I") ∈ xb := xb_mk (lw_in1 _ (List.mem_of_getElem? (i := 109) (by decide +kernel))) (by decide +kernel)
theorem m_2 : (Jvm.Cond.lays "ObjectRules$Descriptor" "ObjectRules$Descriptor" "value" "I") ∈ xb := xb_mk (lw_in1 _ (List.mem_of_getElem? (i := 111) (by decide +kernel))) (by decide +kernel)
theorem m_3 : (Jvm.Cond.lays "ObjectRules$Descriptor" "ObjectRules$Descriptor" "getter" "I") ∈ xb := xb_mk (lw_in1 _ (List.mem_of_getElem? (i := 113) (by decide +kernel))) (by decide +kernel)
theorem m_4 : (Jvm.Cond.lays "ObjectRules$Descriptor" "ObjectRules$Descriptor" "setter" "I") ∈ xb := xb_mk (lw_in1 _ (List.mem_of_getElem? (i := 115) (by decide +kernel))) (by decide +kernel)
theorem m_5 : (Jvm.Cond.laysFinal "ObjectRules$Descriptors" "ObjectRules$Descriptors" "row" "[LObjectRules$Descriptor;") ∈ xb := xb_mk (lw_in1 _ (List.mem_of_getElem? (i := 119) (by decide +kernel))) (by decide +kernel)
theorem m_6 : (Jvm.Cond.laysFinal "ObjectRules$KeyLists" "ObjectRules$KeyLists" "row" "[I") ∈ xb := xb_mk (lw_in1 _ (List.mem_of_getElem? (i := 131) (by decide +kernel))) (by decide +kernel)
theorem m_7 : (Jvm.Cond.laysFinal "ObjectRules$KeyLists" "ObjectRules$KeyLists" "seen" "[I") ∈ xb := xb_mk (lw_in1 _ (List.mem_of_getElem? (i := 133) (by decide +kernel))) (by decide +kernel)
theorem m_8 : (Jvm.Cond.lays "ObjectRules$KeyLists" "ObjectRules$KeyLists" "used" "I") ∈ xb := xb_mk (lw_in1 _ (List.mem_of_getElem? (i := 135) (by decide +kernel))) (by decide +kernel)
theorem m_9 : (Jvm.Cond.laysFinal "ObjectRules$Store" "ObjectRules$Store" "kinds" "[I") ∈ xb := xb_mk (lw_in1 _ (List.mem_of_getElem? (i := 50) (by decide +kernel))) (by decide +kernel)
theorem m_10 : (Jvm.Cond.laysFinal "ObjectRules$Store" "ObjectRules$Store" "parents" "[I") ∈ xb := xb_mk (lw_in1 _ (List.mem_of_getElem? (i := 52) (by decide +kernel))) (by decide +kernel)
theorem m_11 : (Jvm.Cond.laysFinal "ObjectRules$Store" "ObjectRules$Store" "opens" "[Z") ∈ xb := xb_mk (lw_in1 _ (List.mem_of_getElem? (i := 54) (by decide +kernel))) (by decide +kernel)
theorem m_12 : (Jvm.Cond.laysFinal "ObjectRules$Store" "ObjectRules$Store" "firstSlots" "[I") ∈ xb := xb_mk (lw_in1 _ (List.mem_of_getElem? (i := 56) (by decide +kernel))) (by decide +kernel)
theorem m_13 : (Jvm.Cond.laysFinal "ObjectRules$Store" "ObjectRules$Store" "firstParts" "[I") ∈ xb := xb_mk (lw_in1 _ (List.mem_of_getElem? (i := 58) (by decide +kernel))) (by decide +kernel)
theorem m_14 : (Jvm.Cond.laysFinal "ObjectRules$Store" "ObjectRules$Store" "secondParts" "[I") ∈ xb := xb_mk (lw_in1 _ (List.mem_of_getElem? (i := 60) (by decide +kernel))) (by decide +kernel)
theorem m_15 : (Jvm.Cond.laysFinal "ObjectRules$Store" "ObjectRules$Store" "thirdParts" "[I") ∈ xb := xb_mk (lw_in1 _ (List.mem_of_getElem? (i := 62) (by decide +kernel))) (by decide +kernel)
theorem m_16 : (Jvm.Cond.lays "ObjectRules$Store" "ObjectRules$Store" "objects" "I") ∈ xb := xb_mk (lw_in1 _ (List.mem_of_getElem? (i := 64) (by decide +kernel))) (by decide +kernel)
theorem m_17 : (Jvm.Cond.laysFinal "ObjectRules$Store" "ObjectRules$Store" "slotKeys" "[I") ∈ xb := xb_mk (lw_in1 _ (List.mem_of_getElem? (i := 66) (by decide +kernel))) (by decide +kernel)
theorem m_18 : (Jvm.Cond.laysFinal "ObjectRules$Store" "ObjectRules$Store" "slotValues" "[I") ∈ xb := xb_mk (lw_in1 _ (List.mem_of_getElem? (i := 68) (by decide +kernel))) (by decide +kernel)
theorem m_19 : (Jvm.Cond.laysFinal "ObjectRules$Store" "ObjectRules$Store" "slotSetters" "[I") ∈ xb := xb_mk (lw_in1 _ (List.mem_of_getElem? (i := 70) (by decide +kernel))) (by decide +kernel)
theorem m_20 : (Jvm.Cond.laysFinal "ObjectRules$Store" "ObjectRules$Store" "slotFlags" "[I") ∈ xb := xb_mk (lw_in1 _ (List.mem_of_getElem? (i := 72) (by decide +kernel))) (by decide +kernel)
theorem m_21 : (Jvm.Cond.laysFinal "ObjectRules$Store" "ObjectRules$Store" "slotNexts" "[I") ∈ xb := xb_mk (lw_in1 _ (List.mem_of_getElem? (i := 74) (by decide +kernel))) (by decide +kernel)
theorem m_22 : (Jvm.Cond.lays "ObjectRules$Store" "ObjectRules$Store" "firstFree" "I") ∈ xb := xb_mk (lw_in1 _ (List.mem_of_getElem? (i := 76) (by decide +kernel))) (by decide +kernel)
theorem m_23 : (Jvm.Cond.laysFinal "ObjectRules$Trapless" "ObjectRules$Trapless" "heights" "[I") ∈ xb := xb_mk (lw_in1 _ (List.mem_of_getElem? (i := 147) (by decide +kernel))) (by decide +kernel)
theorem m_24 : (Jvm.Cond.laysFinal "ObjectRules$Trapless" "ObjectRules$Trapless" "moments" "[I") ∈ xb := xb_mk (lw_in1 _ (List.mem_of_getElem? (i := 149) (by decide +kernel))) (by decide +kernel)
theorem m_25 : (Jvm.Cond.lays "ObjectRules$Trapless" "ObjectRules$Trapless" "moment" "I") ∈ xb := xb_mk (lw_in1 _ (List.mem_of_getElem? (i := 151) (by decide +kernel))) (by decide +kernel)
theorem m_26 : (Jvm.Cond.laysFinal "ObjectRules" "ObjectRules" "store" "LObjectRules$Store;") ∈ xb := xb_mk (lw_in1 _ (List.mem_of_getElem? (i := 168) (by decide +kernel))) (by decide +kernel)
theorem m_27 : (Jvm.Cond.laysFinal "ObjectRules" "ObjectRules" "descriptors" "LObjectRules$Descriptors;") ∈ xb := xb_mk (lw_in1 _ (List.mem_of_getElem? (i := 170) (by decide +kernel))) (by decide +kernel)
theorem m_28 : (Jvm.Cond.laysFinal "ObjectRules" "ObjectRules" "lists" "LObjectRules$KeyLists;") ∈ xb := xb_mk (lw_in1 _ (List.mem_of_getElem? (i := 172) (by decide +kernel))) (by decide +kernel)
theorem m_29 : (Jvm.Cond.laysFinal "ObjectRules" "ObjectRules" "trapless" "LObjectRules$Trapless;") ∈ xb := xb_mk (lw_in1 _ (List.mem_of_getElem? (i := 174) (by decide +kernel))) (by decide +kernel)
theorem m_30 : (Jvm.Cond.laysFinal "ObjectRules" "ObjectRules" "current" "LObjectRules$Descriptor;") ∈ xb := xb_mk (lw_in1 _ (List.mem_of_getElem? (i := 176) (by decide +kernel))) (by decide +kernel)
theorem m_31 : (Jvm.Cond.laysFinal "ObjectRules" "ObjectRules" "heldKeys" "[I") ∈ xb := xb_mk (lw_in1 _ (List.mem_of_getElem? (i := 178) (by decide +kernel))) (by decide +kernel)
theorem m_32 : (Jvm.Cond.laysFinal "ObjectRules" "ObjectRules" "called" "[I") ∈ xb := xb_mk (lw_in1 _ (List.mem_of_getElem? (i := 180) (by decide +kernel))) (by decide +kernel)
theorem m_33 : (Jvm.Cond.lays "ObjectRules" "ObjectRules" "heldCount" "I") ∈ xb := xb_mk (lw_in1 _ (List.mem_of_getElem? (i := 182) (by decide +kernel))) (by decide +kernel)
theorem m_34 : (Jvm.Cond.lays "ObjectRules" "ObjectRules" "calledCount" "I") ∈ xb := xb_mk (lw_in1 _ (List.mem_of_getElem? (i := 184) (by decide +kernel))) (by decide +kernel)
theorem m_35 : (Jvm.Cond.lays "ObjectRules" "ObjectRules" "thrownLatest" "I") ∈ xb := xb_mk (lw_in1 _ (List.mem_of_getElem? (i := 186) (by decide +kernel))) (by decide +kernel)
theorem m_36 : (Jvm.Cond.lays "ObjectRules" "ObjectRules" "depth" "I") ∈ xb := xb_mk (lw_in1 _ (List.mem_of_getElem? (i := 188) (by decide +kernel))) (by decide +kernel)
theorem m_37 : (Jvm.Cond.lays "ObjectRules" "ObjectRules" "deepest" "I") ∈ xb := xb_mk (lw_in1 _ (List.mem_of_getElem? (i := 190) (by decide +kernel))) (by decide +kernel)
theorem m_38 : (Jvm.Cond.lays "ObjectRulesModel$Desc" "ObjectRulesModel$Desc" "hasValue" "Z") ∈ xb := xb_mk (lw_in7 _ (List.mem_of_getElem? (i := 43) (by decide +kernel))) (by decide +kernel)
theorem m_39 : (Jvm.Cond.lays "ObjectRulesModel$Desc" "ObjectRulesModel$Desc" "hasWritable" "Z") ∈ xb := xb_mk (lw_in7 _ (List.mem_of_getElem? (i := 45) (by decide +kernel))) (by decide +kernel)
theorem m_40 : (Jvm.Cond.lays "ObjectRulesModel$Desc" "ObjectRulesModel$Desc" "hasGet" "Z") ∈ xb := xb_mk (lw_in7 _ (List.mem_of_getElem? (i := 47) (by decide +kernel))) (by decide +kernel)
theorem m_41 : (Jvm.Cond.lays "ObjectRulesModel$Desc" "ObjectRulesModel$Desc" "hasSet" "Z") ∈ xb := xb_mk (lw_in7 _ (List.mem_of_getElem? (i := 49) (by decide +kernel))) (by decide +kernel)
theorem m_42 : (Jvm.Cond.lays "ObjectRulesModel$Desc" "ObjectRulesModel$Desc" "hasEnumerable" "Z") ∈ xb := xb_mk (lw_in7 _ (List.mem_of_getElem? (i := 51) (by decide +kernel))) (by decide +kernel)
theorem m_43 : (Jvm.Cond.lays "ObjectRulesModel$Desc" "ObjectRulesModel$Desc" "hasConfigurable" "Z") ∈ xb := xb_mk (lw_in7 _ (List.mem_of_getElem? (i := 53) (by decide +kernel))) (by decide +kernel)
theorem m_44 : (Jvm.Cond.lays "ObjectRulesModel$Desc" "ObjectRulesModel$Desc" "writable" "Z") ∈ xb := xb_mk (lw_in7 _ (List.mem_of_getElem? (i := 55) (by decide +kernel))) (by decide +kernel)
theorem m_45 : (Jvm.Cond.lays "ObjectRulesModel$Desc" "ObjectRulesModel$Desc" "enumerable" "Z") ∈ xb := xb_mk (lw_in7 _ (List.mem_of_getElem? (i := 57) (by decide +kernel))) (by decide +kernel)
theorem m_46 : (Jvm.Cond.lays "ObjectRulesModel$Desc" "ObjectRulesModel$Desc" "configurable" "Z") ∈ xb := xb_mk (lw_in7 _ (List.mem_of_getElem? (i := 59) (by decide +kernel))) (by decide +kernel)
theorem m_47 : (Jvm.Cond.lays "ObjectRulesModel$Desc" "ObjectRulesModel$Desc" "value" "I") ∈ xb := xb_mk (lw_in7 _ (List.mem_of_getElem? (i := 61) (by decide +kernel))) (by decide +kernel)
theorem m_48 : (Jvm.Cond.lays "ObjectRulesModel$Desc" "ObjectRulesModel$Desc" "get" "I") ∈ xb := xb_mk (lw_in7 _ (List.mem_of_getElem? (i := 63) (by decide +kernel))) (by decide +kernel)
theorem m_49 : (Jvm.Cond.lays "ObjectRulesModel$Desc" "ObjectRulesModel$Desc" "set" "I") ∈ xb := xb_mk (lw_in7 _ (List.mem_of_getElem? (i := 65) (by decide +kernel))) (by decide +kernel)
theorem m_50 : (Jvm.Cond.laysFinal "ObjectRulesModel$Keys" "ObjectRulesModel$Keys" "at" "[I") ∈ xb := xb_mk (lw_in7 _ (List.mem_of_getElem? (i := 212) (by decide +kernel))) (by decide +kernel)
theorem m_51 : (Jvm.Cond.lays "ObjectRulesModel$Keys" "ObjectRulesModel$Keys" "many" "I") ∈ xb := xb_mk (lw_in7 _ (List.mem_of_getElem? (i := 214) (by decide +kernel))) (by decide +kernel)
theorem m_52 : (Jvm.Cond.lays "ObjectRulesModel$Stop" "java/lang/Throwable" "cause" "Ljava/lang/Throwable;") ∈ xb := xb_mk (lw_in6 _ (List.mem_of_getElem? (i := 141) (by decide +kernel))) (by decide +kernel)
theorem m_53 : (Jvm.Cond.lays "ObjectRulesModel$Stop" "java/lang/Throwable" "stackTrace" "[Ljava/lang/StackTraceElement;") ∈ xb := xb_mk (lw_in6 _ (List.mem_of_getElem? (i := 142) (by decide +kernel))) (by decide +kernel)
theorem m_54 : (Jvm.Cond.lays "ObjectRulesModel$Stop" "java/lang/Throwable" "suppressedExceptions" "Ljava/util/List;") ∈ xb := xb_mk (lw_in6 _ (List.mem_of_getElem? (i := 143) (by decide +kernel))) (by decide +kernel)
theorem m_55 : (Jvm.Cond.lays "ObjectRulesModel$Stop" "java/lang/Throwable" "detailMessage" "Ljava/lang/String;") ∈ xb := xb_mk (lw_in6 _ (List.mem_of_getElem? (i := 144) (by decide +kernel))) (by decide +kernel)
theorem m_56 : (Jvm.Cond.lays "ObjectRulesModel$Stop" "java/lang/Throwable" "backtrace" "Ljava/lang/Object;") ∈ xb := xb_mk (lw_in6 _ (List.mem_of_getElem? (i := 145) (by decide +kernel))) (by decide +kernel)
theorem m_57 : (Jvm.Cond.lays "ObjectRulesModel$Stop" "java/lang/Throwable" "depth" "I") ∈ xb := xb_mk (lw_in6 _ (List.mem_of_getElem? (i := 162) (by decide +kernel))) (by decide +kernel)
theorem m_58 : (Jvm.Cond.laysFinal "ObjectRulesModel$Stop" "ObjectRulesModel$Stop" "code" "I") ∈ xb := xb_mk (lw_in6 _ (List.mem_of_getElem? (i := 160) (by decide +kernel))) (by decide +kernel)
theorem m_59 : (Jvm.Cond.lays "ObjectRulesModel" "ObjectRulesModel" "thrown" "I") ∈ xb := xb_mk (lw_in6 _ (List.mem_of_getElem? (i := 42) (by decide +kernel))) (by decide +kernel)
theorem m_60 : (Jvm.Cond.lays "ObjectRulesModel" "ObjectRulesModel" "objects" "I") ∈ xb := xb_mk (lw_in6 _ (List.mem_of_getElem? (i := 44) (by decide +kernel))) (by decide +kernel)
theorem m_61 : (Jvm.Cond.laysFinal "ObjectRulesModel" "ObjectRulesModel" "type" "[I") ∈ xb := xb_mk (lw_in6 _ (List.mem_of_getElem? (i := 46) (by decide +kernel))) (by decide +kernel)
theorem m_62 : (Jvm.Cond.laysFinal "ObjectRulesModel" "ObjectRulesModel" "proto" "[I") ∈ xb := xb_mk (lw_in6 _ (List.mem_of_getElem? (i := 48) (by decide +kernel))) (by decide +kernel)
theorem m_63 : (Jvm.Cond.laysFinal "ObjectRulesModel" "ObjectRulesModel" "target" "[I") ∈ xb := xb_mk (lw_in6 _ (List.mem_of_getElem? (i := 50) (by decide +kernel))) (by decide +kernel)
theorem m_64 : (Jvm.Cond.laysFinal "ObjectRulesModel" "ObjectRulesModel" "handler" "[I") ∈ xb := xb_mk (lw_in6 _ (List.mem_of_getElem? (i := 52) (by decide +kernel))) (by decide +kernel)
theorem m_65 : (Jvm.Cond.laysFinal "ObjectRulesModel" "ObjectRulesModel" "act" "[I") ∈ xb := xb_mk (lw_in6 _ (List.mem_of_getElem? (i := 54) (by decide +kernel))) (by decide +kernel)
theorem m_66 : (Jvm.Cond.laysFinal "ObjectRulesModel" "ObjectRulesModel" "actKey" "[I") ∈ xb := xb_mk (lw_in6 _ (List.mem_of_getElem? (i := 56) (by decide +kernel))) (by decide +kernel)
theorem m_67 : (Jvm.Cond.laysFinal "ObjectRulesModel" "ObjectRulesModel" "actValue" "[I") ∈ xb := xb_mk (lw_in6 _ (List.mem_of_getElem? (i := 58) (by decide +kernel))) (by decide +kernel)
theorem m_68 : (Jvm.Cond.laysFinal "ObjectRulesModel" "ObjectRulesModel" "closed" "[Z") ∈ xb := xb_mk (lw_in6 _ (List.mem_of_getElem? (i := 60) (by decide +kernel))) (by decide +kernel)
theorem m_69 : (Jvm.Cond.laysFinal "ObjectRulesModel" "ObjectRulesModel" "first" "[I") ∈ xb := xb_mk (lw_in6 _ (List.mem_of_getElem? (i := 62) (by decide +kernel))) (by decide +kernel)
theorem m_70 : (Jvm.Cond.laysFinal "ObjectRulesModel" "ObjectRulesModel" "next" "[I") ∈ xb := xb_mk (lw_in6 _ (List.mem_of_getElem? (i := 64) (by decide +kernel))) (by decide +kernel)
theorem m_71 : (Jvm.Cond.laysFinal "ObjectRulesModel" "ObjectRulesModel" "keyOf" "[I") ∈ xb := xb_mk (lw_in6 _ (List.mem_of_getElem? (i := 66) (by decide +kernel))) (by decide +kernel)
theorem m_72 : (Jvm.Cond.laysFinal "ObjectRulesModel" "ObjectRulesModel" "valueOf" "[I") ∈ xb := xb_mk (lw_in6 _ (List.mem_of_getElem? (i := 68) (by decide +kernel))) (by decide +kernel)
theorem m_73 : (Jvm.Cond.laysFinal "ObjectRulesModel" "ObjectRulesModel" "getOf" "[I") ∈ xb := xb_mk (lw_in6 _ (List.mem_of_getElem? (i := 70) (by decide +kernel))) (by decide +kernel)
theorem m_74 : (Jvm.Cond.laysFinal "ObjectRulesModel" "ObjectRulesModel" "setOf" "[I") ∈ xb := xb_mk (lw_in6 _ (List.mem_of_getElem? (i := 72) (by decide +kernel))) (by decide +kernel)
theorem m_75 : (Jvm.Cond.laysFinal "ObjectRulesModel" "ObjectRulesModel" "accessor" "[Z") ∈ xb := xb_mk (lw_in6 _ (List.mem_of_getElem? (i := 74) (by decide +kernel))) (by decide +kernel)
theorem m_76 : (Jvm.Cond.laysFinal "ObjectRulesModel" "ObjectRulesModel" "writable" "[Z") ∈ xb := xb_mk (lw_in6 _ (List.mem_of_getElem? (i := 76) (by decide +kernel))) (by decide +kernel)
theorem m_77 : (Jvm.Cond.laysFinal "ObjectRulesModel" "ObjectRulesModel" "enumerable" "[Z") ∈ xb := xb_mk (lw_in6 _ (List.mem_of_getElem? (i := 78) (by decide +kernel))) (by decide +kernel)
theorem m_78 : (Jvm.Cond.laysFinal "ObjectRulesModel" "ObjectRulesModel" "configurable" "[Z") ∈ xb := xb_mk (lw_in6 _ (List.mem_of_getElem? (i := 80) (by decide +kernel))) (by decide +kernel)
theorem m_79 : (Jvm.Cond.lays "ObjectRulesModel" "ObjectRulesModel" "free" "I") ∈ xb := xb_mk (lw_in6 _ (List.mem_of_getElem? (i := 82) (by decide +kernel))) (by decide +kernel)
theorem m_80 : (Jvm.Cond.lays "ObjectRulesModel" "ObjectRulesModel" "properties" "I") ∈ xb := xb_mk (lw_in6 _ (List.mem_of_getElem? (i := 84) (by decide +kernel))) (by decide +kernel)
theorem m_81 : (Jvm.Cond.laysFinal "ObjectRulesModel" "ObjectRulesModel" "held" "[I") ∈ xb := xb_mk (lw_in6 _ (List.mem_of_getElem? (i := 86) (by decide +kernel))) (by decide +kernel)
theorem m_82 : (Jvm.Cond.lays "ObjectRulesModel" "ObjectRulesModel" "helds" "I") ∈ xb := xb_mk (lw_in6 _ (List.mem_of_getElem? (i := 88) (by decide +kernel))) (by decide +kernel)
theorem m_83 : (Jvm.Cond.laysFinal "ObjectRulesModel" "ObjectRulesModel" "called" "[I") ∈ xb := xb_mk (lw_in6 _ (List.mem_of_getElem? (i := 90) (by decide +kernel))) (by decide +kernel)
theorem m_84 : (Jvm.Cond.lays "ObjectRulesModel" "ObjectRulesModel" "calls" "I") ∈ xb := xb_mk (lw_in6 _ (List.mem_of_getElem? (i := 92) (by decide +kernel))) (by decide +kernel)
theorem m_85 : (Jvm.Cond.lays "ObjectRulesModel" "ObjectRulesModel" "depth" "I") ∈ xb := xb_mk (lw_in6 _ (List.mem_of_getElem? (i := 94) (by decide +kernel))) (by decide +kernel)
theorem m_86 : (Jvm.Cond.lays "ObjectRulesModel" "ObjectRulesModel" "latest" "I") ∈ xb := xb_mk (lw_in6 _ (List.mem_of_getElem? (i := 96) (by decide +kernel))) (by decide +kernel)
theorem m_87 : (Jvm.Cond.laysFinal "ObjectRulesModel" "ObjectRulesModel" "descs" "[LObjectRulesModel$Desc;") ∈ xb := xb_mk (lw_in6 _ (List.mem_of_getElem? (i := 98) (by decide +kernel))) (by decide +kernel)
theorem m_88 : (Jvm.Cond.laysFinal "ObjectRulesModel" "ObjectRulesModel" "lists" "[LObjectRulesModel$Keys;") ∈ xb := xb_mk (lw_in6 _ (List.mem_of_getElem? (i := 100) (by decide +kernel))) (by decide +kernel)
theorem m_89 : (Jvm.Cond.lays "ObjectRulesModel" "ObjectRulesModel" "descTop" "I") ∈ xb := xb_mk (lw_in6 _ (List.mem_of_getElem? (i := 102) (by decide +kernel))) (by decide +kernel)
theorem m_90 : (Jvm.Cond.lays "ObjectRulesModel" "ObjectRulesModel" "listTop" "I") ∈ xb := xb_mk (lw_in6 _ (List.mem_of_getElem? (i := 104) (by decide +kernel))) (by decide +kernel)
theorem m_91 : (Jvm.Cond.initialized "java/lang/Throwable") ∈ xb := xb_mk (lw_in1 _ (List.mem_of_getElem? (i := 8) (by decide +kernel))) (by decide +kernel)
theorem m_92 : (Jvm.Cond.superclass "java/lang/Throwable" "java/lang/Object") ∈ xb := xb_mk (lw_in2 _ (List.mem_of_getElem? (i := 16) (by decide +kernel))) (by decide +kernel)
theorem m_93 : (Jvm.Cond.instanceMethod ({ cls := "java/lang/Throwable", name := "fillInStackTrace", desc := "()Ljava/lang/Throwable;" } : Jvm.MethodName)) ∈ xb := xb_mk (lw_in2 _ (List.mem_of_getElem? (i := 25) (by decide +kernel))) (by decide +kernel)
theorem m_94 : (Jvm.Cond.codeSync ({ cls := "java/lang/Throwable", name := "fillInStackTrace", desc := "()Ljava/lang/Throwable;" } : Jvm.MethodName) prog_20_method_18_code (1 : Nat) (Option.some (Jvm.ClassFile.FieldType.object "java/lang/Throwable"))) ∈ xb := xb_mk (lw_in2 _ (List.mem_of_getElem? (i := 33) (by decide +kernel))) (by decide +kernel)
theorem m_95 : (Jvm.Cond.instanceMethod ({ cls := "java/lang/Throwable", name := "fillInStackTrace", desc := "(I)Ljava/lang/Throwable;" } : Jvm.MethodName)) ∈ xb := xb_mk (lw_in2 _ (List.mem_of_getElem? (i := 36) (by decide +kernel))) (by decide +kernel)
theorem m_96 : (Jvm.Cond.native ({ cls := "java/lang/Throwable", name := "fillInStackTrace", desc := "(I)Ljava/lang/Throwable;" } : Jvm.MethodName)) ∈ xb := xb_mk (lw_in2 _ (List.mem_of_getElem? (i := 38) (by decide +kernel))) (by decide +kernel)
theorem m_97 : (Jvm.Cond.instanceMethod ({ cls := "java/lang/Throwable", name := "<init>", desc := "()V" } : Jvm.MethodName)) ∈ xb := xb_mk (lw_in2 _ (List.mem_of_getElem? (i := 17) (by decide +kernel))) (by decide +kernel)
theorem m_98 : (Jvm.Cond.code ({ cls := "java/lang/Throwable", name := "<init>", desc := "()V" } : Jvm.MethodName) prog_20_method_1_code (1 : Nat) (Option.none : Option Jvm.ClassFile.FieldType)) ∈ xb := xb_mk (lw_in2 _ (List.mem_of_getElem? (i := 18) (by decide +kernel))) (by decide +kernel)
theorem m_99 : (Jvm.Cond.instanceMethod ({ cls := "java/lang/Object", name := "<init>", desc := "()V" } : Jvm.MethodName)) ∈ xb := xb_mk (lw_in1 _ (List.mem_of_getElem? (i := 28) (by decide +kernel))) (by decide +kernel)
theorem m_100 : (Jvm.Cond.code ({ cls := "java/lang/Object", name := "<init>", desc := "()V" } : Jvm.MethodName) object_method_1_code (1 : Nat) (Option.none : Option Jvm.ClassFile.FieldType)) ∈ xb := xb_mk (lw_in1 _ (List.mem_of_getElem? (i := 29) (by decide +kernel))) (by decide +kernel)
theorem m_101 : (Jvm.Cond.methodLink "java/lang/Throwable" (1 : Nat) ({ cls := "java/lang/Object", name := "<init>", desc := "()V" } : Jvm.MethodName)) ∈ xb := xb_mk (lw_in2 _ (List.mem_of_getElem? (i := 19) (by decide +kernel))) (by decide +kernel)
theorem m_102 : (Jvm.Cond.methodLink "java/lang/Throwable" (27 : Nat) ({ cls := "java/lang/Throwable", name := "fillInStackTrace", desc := "()Ljava/lang/Throwable;" } : Jvm.MethodName)) ∈ xb := xb_mk (lw_in2 _ (List.mem_of_getElem? (i := 24) (by decide +kernel))) (by decide +kernel)
theorem m_103 : (Jvm.Cond.methodLink "java/lang/Throwable" (202 : Nat) ({ cls := "java/lang/Throwable", name := "fillInStackTrace", desc := "(I)Ljava/lang/Throwable;" } : Jvm.MethodName)) ∈ xb := xb_mk (lw_in2 _ (List.mem_of_getElem? (i := 34) (by decide +kernel))) (by decide +kernel)
theorem m_104 : (Jvm.Cond.fieldLink "java/lang/Throwable" (7 : Nat) "java/lang/Throwable" "cause" "Ljava/lang/Throwable;") ∈ xb := xb_mk (lw_in2 _ (List.mem_of_getElem? (i := 54) (by decide +kernel))) (by decide +kernel)
theorem m_105 : (Jvm.Cond.lays "java/lang/Throwable" "java/lang/Throwable" "cause" "Ljava/lang/Throwable;") ∈ xb := xb_mk (lw_in2 _ (List.mem_of_getElem? (i := 6) (by decide +kernel))) (by decide +kernel)
theorem m_106 : (Jvm.Cond.fieldLink "java/lang/Throwable" (17 : Nat) "java/lang/Throwable" "stackTrace" "[Ljava/lang/StackTraceElement;") ∈ xb := xb_mk (lw_in2 _ (List.mem_of_getElem? (i := 55) (by decide +kernel))) (by decide +kernel)
theorem m_107 : (Jvm.Cond.lays "java/lang/Throwable" "java/lang/Throwable" "stackTrace" "[Ljava/lang/StackTraceElement;") ∈ xb := xb_mk (lw_in2 _ (List.mem_of_getElem? (i := 8) (by decide +kernel))) (by decide +kernel)
theorem m_108 : (Jvm.Cond.fieldLink "java/lang/Throwable" (24 : Nat) "java/lang/Throwable" "suppressedExceptions" "Ljava/util/List;") ∈ xb := xb_mk (lw_in2 _ (List.mem_of_getElem? (i := 56) (by decide +kernel))) (by decide +kernel)
theorem m_109 : (Jvm.Cond.lays "java/lang/Throwable" "java/lang/Throwable" "suppressedExceptions" "Ljava/util/List;") ∈ xb := xb_mk (lw_in2 _ (List.mem_of_getElem? (i := 10) (by decide +kernel))) (by decide +kernel)
theorem m_110 : (Jvm.Cond.fieldLink "java/lang/Throwable" (13 : Nat) "java/lang/Throwable" "UNASSIGNED_STACK" "[Ljava/lang/StackTraceElement;") ∈ xb := xb_mk (lw_in2 _ (List.mem_of_getElem? (i := 20) (by decide +kernel))) (by decide +kernel)
theorem m_111 : (Jvm.Cond.fieldLink "java/lang/Throwable" (20 : Nat) "java/lang/Throwable" "SUPPRESSED_SENTINEL" "Ljava/util/List;") ∈ xb := xb_mk (lw_in2 _ (List.mem_of_getElem? (i := 22) (by decide +kernel))) (by decide +kernel)
theorem m_112 : (Jvm.Cond.lays "java/lang/Throwable" "java/lang/Throwable" "detailMessage" "Ljava/lang/String;") ∈ xb := xb_mk (lw_in2 _ (List.mem_of_getElem? (i := 12) (by decide +kernel))) (by decide +kernel)
theorem m_113 : (Jvm.Cond.instanceMethod ({ cls := "java/lang/Throwable", name := "<init>", desc := "(Ljava/lang/String;)V" } : Jvm.MethodName)) ∈ xb := xb_mk (lw_in2 _ (List.mem_of_getElem? (i := 50) (by decide +kernel))) (by decide +kernel)
theorem m_114 : (Jvm.Cond.code ({ cls := "java/lang/Throwable", name := "<init>", desc := "(Ljava/lang/String;)V" } : Jvm.MethodName) prog_20_method_2_code (2 : Nat) (Option.none : Option Jvm.ClassFile.FieldType)) ∈ xb := xb_mk (lw_in2 _ (List.mem_of_getElem? (i := 51) (by decide +kernel))) (by decide +kernel)
theorem m_115 : (Jvm.Cond.fieldLink "java/lang/Throwable" (31 : Nat) "java/lang/Throwable" "detailMessage" "Ljava/lang/String;") ∈ xb := xb_mk (lw_in2 _ (List.mem_of_getElem? (i := 53) (by decide +kernel))) (by decide +kernel)
theorem m_116 : (Jvm.Cond.instanceMethod ({ cls := "java/lang/IllegalArgumentException", name := "<init>", desc := "(Ljava/lang/String;)V" } : Jvm.MethodName)) ∈ xb := xb_mk (lw_in2 _ (List.mem_of_getElem? (i := 41) (by decide +kernel))) (by decide +kernel)
theorem m_117 : (Jvm.Cond.code ({ cls := "java/lang/IllegalArgumentException", name := "<init>", desc := "(Ljava/lang/String;)V" } : Jvm.MethodName) prog_14_method_2_code (2 : Nat) (Option.none : Option Jvm.ClassFile.FieldType)) ∈ xb := xb_mk (lw_in2 _ (List.mem_of_getElem? (i := 42) (by decide +kernel))) (by decide +kernel)
theorem m_118 : (Jvm.Cond.methodLink "java/lang/IllegalArgumentException" (7 : Nat) ({ cls := "java/lang/RuntimeException", name := "<init>", desc := "(Ljava/lang/String;)V" } : Jvm.MethodName)) ∈ xb := xb_mk (lw_in2 _ (List.mem_of_getElem? (i := 43) (by decide +kernel))) (by decide +kernel)
theorem m_119 : (Jvm.Cond.instanceMethod ({ cls := "java/lang/RuntimeException", name := "<init>", desc := "(Ljava/lang/String;)V" } : Jvm.MethodName)) ∈ xb := xb_mk (lw_in2 _ (List.mem_of_getElem? (i := 44) (by decide +kernel))) (by decide +kernel)
theorem m_120 : (Jvm.Cond.code ({ cls := "java/lang/RuntimeException", name := "<init>", desc := "(Ljava/lang/String;)V" } : Jvm.MethodName) prog_18_method_2_code (2 : Nat) (Option.none : Option Jvm.ClassFile.FieldType)) ∈ xb := xb_mk (lw_in2 _ (List.mem_of_getElem? (i := 45) (by decide +kernel))) (by decide +kernel)
theorem m_121 : (Jvm.Cond.methodLink "java/lang/RuntimeException" (7 : Nat) ({ cls := "java/lang/Exception", name := "<init>", desc := "(Ljava/lang/String;)V" } : Jvm.MethodName)) ∈ xb := xb_mk (lw_in2 _ (List.mem_of_getElem? (i := 46) (by decide +kernel))) (by decide +kernel)
theorem m_122 : (Jvm.Cond.instanceMethod ({ cls := "java/lang/Exception", name := "<init>", desc := "(Ljava/lang/String;)V" } : Jvm.MethodName)) ∈ xb := xb_mk (lw_in2 _ (List.mem_of_getElem? (i := 47) (by decide +kernel))) (by decide +kernel)
theorem m_123 : (Jvm.Cond.code ({ cls := "java/lang/Exception", name := "<init>", desc := "(Ljava/lang/String;)V" } : Jvm.MethodName) prog_13_method_2_code (2 : Nat) (Option.none : Option Jvm.ClassFile.FieldType)) ∈ xb := xb_mk (lw_in2 _ (List.mem_of_getElem? (i := 48) (by decide +kernel))) (by decide +kernel)
theorem m_124 : (Jvm.Cond.methodLink "java/lang/Exception" (7 : Nat) ({ cls := "java/lang/Throwable", name := "<init>", desc := "(Ljava/lang/String;)V" } : Jvm.MethodName)) ∈ xb := xb_mk (lw_in2 _ (List.mem_of_getElem? (i := 49) (by decide +kernel))) (by decide +kernel)
theorem m_125 : (Jvm.Cond.methodLink "ObjectRules" (70 : Nat) ({ cls := "java/lang/IllegalArgumentException", name := "<init>", desc := "(Ljava/lang/String;)V" } : Jvm.MethodName)) ∈ xb := xb_mk (lw_in2 _ (List.mem_of_getElem? (i := 40) (by decide +kernel))) (by decide +kernel)
theorem m_126 : (Jvm.Cond.instantiable "java/lang/IllegalArgumentException" (6 : Nat)) ∈ xb := xb_mk (lw_in1 _ (List.mem_of_getElem? (i := 235) (by decide +kernel))) (by decide +kernel)
theorem m_127 : (Jvm.Cond.selects "java/lang/IllegalArgumentException" ({ cls := "java/lang/Throwable", name := "fillInStackTrace", desc := "(I)Ljava/lang/Throwable;" } : Jvm.MethodName) ({ cls := "java/lang/Throwable", name := "fillInStackTrace", desc := "(I)Ljava/lang/Throwable;" } : Jvm.MethodName)) ∈ xb := xb_mk (lw_in2 _ (List.mem_of_getElem? (i := 3) (by decide +kernel))) (by decide +kernel)
theorem m_128 : (Jvm.Cond.selects "java/lang/IllegalArgumentException" ({ cls := "java/lang/Throwable", name := "fillInStackTrace", desc := "()Ljava/lang/Throwable;" } : Jvm.MethodName) ({ cls := "java/lang/Throwable", name := "fillInStackTrace", desc := "()Ljava/lang/Throwable;" } : Jvm.MethodName)) ∈ xb := xb_mk (lw_in2 _ (List.mem_of_getElem? (i := 4) (by decide +kernel))) (by decide +kernel)
theorem m_129 : (Jvm.Cond.lays "java/lang/IllegalArgumentException" "java/lang/Throwable" "cause" "Ljava/lang/Throwable;") ∈ xb := xb_mk (lw_in2 _ (List.mem_of_getElem? (i := 5) (by decide +kernel))) (by decide +kernel)
theorem m_130 : (Jvm.Cond.lays "java/lang/IllegalArgumentException" "java/lang/Throwable" "stackTrace" "[Ljava/lang/StackTraceElement;") ∈ xb := xb_mk (lw_in2 _ (List.mem_of_getElem? (i := 7) (by decide +kernel))) (by decide +kernel)
theorem m_131 : (Jvm.Cond.lays "java/lang/IllegalArgumentException" "java/lang/Throwable" "suppressedExceptions" "Ljava/util/List;") ∈ xb := xb_mk (lw_in2 _ (List.mem_of_getElem? (i := 9) (by decide +kernel))) (by decide +kernel)
theorem m_132 : (Jvm.Cond.lays "java/lang/IllegalArgumentException" "java/lang/Throwable" "detailMessage" "Ljava/lang/String;") ∈ xb := xb_mk (lw_in2 _ (List.mem_of_getElem? (i := 11) (by decide +kernel))) (by decide +kernel)
theorem m_133 : (Jvm.Cond.fieldLink "java/lang/Throwable" (198 : Nat) "java/lang/Throwable" "backtrace" "Ljava/lang/Object;") ∈ xb := xb_mk (lw_in2 _ (List.mem_of_getElem? (i := 15) (by decide +kernel))) (by decide +kernel)
theorem m_134 : (Jvm.Cond.lays "java/lang/Throwable" "java/lang/Throwable" "backtrace" "Ljava/lang/Object;") ∈ xb := xb_mk (lw_in2 _ (List.mem_of_getElem? (i := 14) (by decide +kernel))) (by decide +kernel)
theorem m_135 : (Jvm.Cond.lays "java/lang/IllegalArgumentException" "java/lang/Throwable" "backtrace" "Ljava/lang/Object;") ∈ xb := xb_mk (lw_in2 _ (List.mem_of_getElem? (i := 13) (by decide +kernel))) (by decide +kernel)
theorem m_136 : (Jvm.Cond.instanceMethod ({ cls := "java/lang/IndexOutOfBoundsException", name := "<init>", desc := "(Ljava/lang/String;)V" } : Jvm.MethodName)) ∈ xb := xb_mk (lw_in5 _ (List.mem_of_getElem? (i := 168) (by decide +kernel))) (by decide +kernel)
theorem m_137 : (Jvm.Cond.code ({ cls := "java/lang/IndexOutOfBoundsException", name := "<init>", desc := "(Ljava/lang/String;)V" } : Jvm.MethodName) prog_16_method_2_code (2 : Nat) (Option.none : Option Jvm.ClassFile.FieldType)) ∈ xb := xb_mk (lw_in5 _ (List.mem_of_getElem? (i := 169) (by decide +kernel))) (by decide +kernel)
theorem m_138 : (Jvm.Cond.methodLink "java/lang/IndexOutOfBoundsException" (7 : Nat) ({ cls := "java/lang/RuntimeException", name := "<init>", desc := "(Ljava/lang/String;)V" } : Jvm.MethodName)) ∈ xb := xb_mk (lw_in5 _ (List.mem_of_getElem? (i := 170) (by decide +kernel))) (by decide +kernel)
theorem m_139 : (Jvm.Cond.methodLink "ObjectRules" (179 : Nat) ({ cls := "java/lang/IndexOutOfBoundsException", name := "<init>", desc := "(Ljava/lang/String;)V" } : Jvm.MethodName)) ∈ xb := xb_mk (lw_in5 _ (List.mem_of_getElem? (i := 167) (by decide +kernel))) (by decide +kernel)
theorem m_140 : (Jvm.Cond.instantiable "java/lang/IndexOutOfBoundsException" (6 : Nat)) ∈ xb := xb_mk (lw_in5 _ (List.mem_of_getElem? (i := 158) (by decide +kernel))) (by decide +kernel)
theorem m_141 : (Jvm.Cond.selects "java/lang/IndexOutOfBoundsException" ({ cls := "java/lang/Throwable", name := "fillInStackTrace", desc := "(I)Ljava/lang/Throwable;" } : Jvm.MethodName) ({ cls := "java/lang/Throwable", name := "fillInStackTrace", desc := "(I)Ljava/lang/Throwable;" } : Jvm.MethodName)) ∈ xb := xb_mk (lw_in5 _ (List.mem_of_getElem? (i := 160) (by decide +kernel))) (by decide +kernel)
theorem m_142 : (Jvm.Cond.selects "java/lang/IndexOutOfBoundsException" ({ cls := "java/lang/Throwable", name := "fillInStackTrace", desc := "()Ljava/lang/Throwable;" } : Jvm.MethodName) ({ cls := "java/lang/Throwable", name := "fillInStackTrace", desc := "()Ljava/lang/Throwable;" } : Jvm.MethodName)) ∈ xb := xb_mk (lw_in2 _ (List.mem_of_getElem? (i := 30) (by decide +kernel))) (by decide +kernel)
theorem m_143 : (Jvm.Cond.lays "java/lang/IndexOutOfBoundsException" "java/lang/Throwable" "cause" "Ljava/lang/Throwable;") ∈ xb := xb_mk (lw_in5 _ (List.mem_of_getElem? (i := 161) (by decide +kernel))) (by decide +kernel)
theorem m_144 : (Jvm.Cond.lays "java/lang/IndexOutOfBoundsException" "java/lang/Throwable" "stackTrace" "[Ljava/lang/StackTraceElement;") ∈ xb := xb_mk (lw_in5 _ (List.mem_of_getElem? (i := 162) (by decide +kernel))) (by decide +kernel)
theorem m_145 : (Jvm.Cond.lays "java/lang/IndexOutOfBoundsException" "java/lang/Throwable" "suppressedExceptions" "Ljava/util/List;") ∈ xb := xb_mk (lw_in5 _ (List.mem_of_getElem? (i := 163) (by decide +kernel))) (by decide +kernel)
theorem m_146 : (Jvm.Cond.lays "java/lang/IndexOutOfBoundsException" "java/lang/Throwable" "detailMessage" "Ljava/lang/String;") ∈ xb := xb_mk (lw_in5 _ (List.mem_of_getElem? (i := 164) (by decide +kernel))) (by decide +kernel)
theorem m_147 : (Jvm.Cond.lays "java/lang/IndexOutOfBoundsException" "java/lang/Throwable" "backtrace" "Ljava/lang/Object;") ∈ xb := xb_mk (lw_in5 _ (List.mem_of_getElem? (i := 165) (by decide +kernel))) (by decide +kernel)
theorem m_148 : Cond.classLink RX5 66 "java/lang/IllegalArgumentException" ∈ xb := xb_mk (lw_in1 _ (List.mem_of_getElem? (i := 234) (by decide +kernel))) (by decide +kernel)
theorem m_149 : Cond.initialized "java/lang/IllegalArgumentException" ∈ xb := xb_mk (lw_in1 _ (List.mem_of_getElem? (i := 11) (by decide +kernel))) (by decide +kernel)
theorem m_150 : Cond.classLink RX5 175 "java/lang/IndexOutOfBoundsException" ∈ xb := xb_mk (lw_in5 _ (List.mem_of_getElem? (i := 157) (by decide +kernel))) (by decide +kernel)
theorem m_151 : Cond.initialized "java/lang/IndexOutOfBoundsException" ∈ xb := xb_mk (lw_in1 _ (List.mem_of_getElem? (i := 21) (by decide +kernel))) (by decide +kernel)
theorem m_152 : Cond.code yX0_init cX0_init 1 none ∈ xb := xb_mk (lw_in1 _ (List.mem_of_getElem? (i := 92) (by decide +kernel))) (by decide +kernel)
theorem m_153 : Cond.code yX2_init cX2_init 1 none ∈ xb := xb_mk (lw_in1 _ (List.mem_of_getElem? (i := 126) (by decide +kernel))) (by decide +kernel)
theorem m_154 : Cond.code yX4_init cX4_init 1 none ∈ xb := xb_mk (lw_in1 _ (List.mem_of_getElem? (i := 142) (by decide +kernel))) (by decide +kernel)
theorem m_155 : Cond.code yX2_cutTo cX2_cutTo 2 none ∈ xb := xb_mk (lw_in1 _ (List.mem_of_getElem? (i := 213) (by decide +kernel))) (by decide +kernel)
theorem m_156 : Cond.code yX4_forget cX4_forget 1 none ∈ xb := xb_mk (lw_in1 _ (List.mem_of_getElem? (i := 217) (by decide +kernel))) (by decide +kernel)
theorem m_157 : Cond.code yX3_rowOf cX3_rowOf 3 (some .int) ∈ xb := xb_mk (lw_in1 _ (List.mem_of_getElem? (i := 233) (by decide +kernel))) (by decide +kernel)
theorem m_158 : Cond.code yX3_isObject cX3_isObject 2 (some .boolean) ∈ xb := xb_mk (lw_in1 _ (List.mem_of_getElem? (i := 229) (by decide +kernel))) (by decide +kernel)
theorem m_159 : Cond.code yX3_kindOf cX3_kindOf 3 (some .int) ∈ xb := xb_mk (lw_in2 _ (List.mem_of_getElem? (i := 190) (by decide +kernel))) (by decide +kernel)
theorem m_160 : Cond.code yX3_isProxy cX3_isProxy 2 (some .boolean) ∈ xb := xb_mk (lw_in2 _ (List.mem_of_getElem? (i := 186) (by decide +kernel))) (by decide +kernel)
theorem m_161 : Cond.code yX3_size cX3_size 1 (some .int) ∈ xb := xb_mk (lw_in5 _ (List.mem_of_getElem? (i := 238) (by decide +kernel))) (by decide +kernel)
theorem m_162 : Cond.code yX5_begin cX5_begin 1 none ∈ xb := xb_mk (lw_in1 _ (List.mem_of_getElem? (i := 209) (by decide +kernel))) (by decide +kernel)
theorem m_163 : Cond.code yX5_requireObject cX5_requireObject 2 none ∈ xb := xb_mk (lw_in1 _ (List.mem_of_getElem? (i := 225) (by decide +kernel))) (by decide +kernel)
theorem m_164 : Cond.code yX5_requirePrototype cX5_requirePrototype 2 none ∈ xb := xb_mk (lw_in1 _ (List.mem_of_getElem? (i := 221) (by decide +kernel))) (by decide +kernel)
theorem m_165 : Cond.code yX5_requireKey cX5_requireKey 2 none ∈ xb := xb_mk (lw_in2 _ (List.mem_of_getElem? (i := 150) (by decide +kernel))) (by decide +kernel)
theorem m_166 : Cond.code yX3_isSlot cX3_isSlot 2 (some .boolean) ∈ xb := xb_mk (lw_in2 _ (List.mem_of_getElem? (i := 110) (by decide +kernel))) (by decide +kernel)
theorem m_167 : Cond.code yX3_add cX3_add 4 (some .int) ∈ xb := xb_mk (lw_in2 _ (List.mem_of_getElem? (i := 73) (by decide +kernel))) (by decide +kernel)
theorem m_168 : Cond.code yX3_addOrdinary cX3_addOrdinary 2 (some .int) ∈ xb := xb_mk (lw_in2 _ (List.mem_of_getElem? (i := 69) (by decide +kernel))) (by decide +kernel)
theorem m_169 : Cond.code yX3_firstSlotOf cX3_firstSlotOf 3 (some .int) ∈ xb := xb_mk (lw_in2 _ (List.mem_of_getElem? (i := 115) (by decide +kernel))) (by decide +kernel)
theorem m_170 : Cond.code yX3_slotBefore cX3_slotBefore 6 (some .int) ∈ xb := xb_mk (lw_in2 _ (List.mem_of_getElem? (i := 119) (by decide +kernel))) (by decide +kernel)
theorem m_171 : Cond.code yX3_link cX3_link 5 none ∈ xb := xb_mk (lw_in2 _ (List.mem_of_getElem? (i := 130) (by decide +kernel))) (by decide +kernel)
theorem m_172 : Cond.code yX3_append cX3_append 6 (some .int) ∈ xb := xb_mk (lw_in2 _ (List.mem_of_getElem? (i := 106) (by decide +kernel))) (by decide +kernel)
theorem m_173 : Cond.code yX3_putValueAt cX3_putValueAt 3 none ∈ xb := xb_mk (lw_in2 _ (List.mem_of_getElem? (i := 134) (by decide +kernel))) (by decide +kernel)
theorem m_174 : Cond.code yX3_putFlagsAt cX3_putFlagsAt 3 none ∈ xb := xb_mk (lw_in2 _ (List.mem_of_getElem? (i := 138) (by decide +kernel))) (by decide +kernel)
theorem m_175 : Cond.code yX3_addArray cX3_addArray 4 (some .int) ∈ xb := xb_mk (lw_in2 _ (List.mem_of_getElem? (i := 101) (by decide +kernel))) (by decide +kernel)
theorem m_176 : Cond.code yX3_putParts cX3_putParts 6 none ∈ xb := xb_mk (lw_in2 _ (List.mem_of_getElem? (i := 164) (by decide +kernel))) (by decide +kernel)
theorem m_177 : Cond.code yX3_addFunction cX3_addFunction 5 (some .int) ∈ xb := xb_mk (lw_in2 _ (List.mem_of_getElem? (i := 160) (by decide +kernel))) (by decide +kernel)
theorem m_178 : Cond.code yX5_requireValue cX5_requireValue 3 none ∈ xb := xb_mk (lw_in2 _ (List.mem_of_getElem? (i := 155) (by decide +kernel))) (by decide +kernel)
theorem m_179 : Cond.code yX5_make cX5_make 2 (some .int) ∈ xb := xb_mk (lw_in1 _ (List.mem_of_getElem? (i := 205) (by decide +kernel))) (by decide +kernel)
theorem m_180 : Cond.code yX5_array cX5_array 2 (some .int) ∈ xb := xb_mk (lw_in2 _ (List.mem_of_getElem? (i := 96) (by decide +kernel))) (by decide +kernel)
theorem m_181 : Cond.code yX5_function cX5_function 4 (some .int) ∈ xb := xb_mk (lw_in2 _ (List.mem_of_getElem? (i := 145) (by decide +kernel))) (by decide +kernel)
theorem m_182 : Cond.code yX5_proxy cX5_proxy 3 (some .int) ∈ xb := xb_mk (lw_in2 _ (List.mem_of_getElem? (i := 171) (by decide +kernel))) (by decide +kernel)
theorem m_183 : Cond.code yX5_get cX5_get 5 (some .int) ∈ xb := xb_mk (lw_in2 _ (List.mem_of_getElem? (i := 213) (by decide +kernel))) (by decide +kernel)
theorem m_184 : Cond.code yX5_set cX5_set 6 (some .boolean) ∈ xb := xb_mk (lw_in5 _ (List.mem_of_getElem? (i := 99) (by decide +kernel))) (by decide +kernel)
theorem m_185 : Cond.code yX5_has cX5_has 4 (some .boolean) ∈ xb := xb_mk (lw_in5 _ (List.mem_of_getElem? (i := 106) (by decide +kernel))) (by decide +kernel)
theorem m_186 : Cond.code yX5_remove cX5_remove 3 (some .boolean) ∈ xb := xb_mk (lw_in5 _ (List.mem_of_getElem? (i := 113) (by decide +kernel))) (by decide +kernel)
theorem m_187 : Cond.code yX5_define cX5_define 7 (some .boolean) ∈ xb := xb_mk (lw_in5 _ (List.mem_of_getElem? (i := 120) (by decide +kernel))) (by decide +kernel)
theorem m_188 : Cond.code yX5_about cX5_about 5 (some .int) ∈ xb := xb_mk (lw_in5 _ (List.mem_of_getElem? (i := 132) (by decide +kernel))) (by decide +kernel)
theorem m_189 : Cond.code yX5_keys cX5_keys 5 (some .int) ∈ xb := xb_mk (lw_in5 _ (List.mem_of_getElem? (i := 144) (by decide +kernel))) (by decide +kernel)
theorem m_190 : Cond.code yX5_parent cX5_parent 2 (some .int) ∈ xb := xb_mk (lw_in5 _ (List.mem_of_getElem? (i := 179) (by decide +kernel))) (by decide +kernel)
theorem m_191 : Cond.code yX5_setParent cX5_setParent 3 (some .boolean) ∈ xb := xb_mk (lw_in5 _ (List.mem_of_getElem? (i := 186) (by decide +kernel))) (by decide +kernel)
theorem m_192 : Cond.code yX5_open cX5_open 2 (some .boolean) ∈ xb := xb_mk (lw_in5 _ (List.mem_of_getElem? (i := 193) (by decide +kernel))) (by decide +kernel)
theorem m_193 : Cond.code yX5_shut cX5_shut 2 (some .boolean) ∈ xb := xb_mk (lw_in5 _ (List.mem_of_getElem? (i := 200) (by decide +kernel))) (by decide +kernel)
theorem m_194 : Cond.code yX5_level cX5_level 4 (some .boolean) ∈ xb := xb_mk (lw_in5 _ (List.mem_of_getElem? (i := 207) (by decide +kernel))) (by decide +kernel)
theorem m_195 : Cond.code yX5_assign cX5_assign 3 (some .int) ∈ xb := xb_mk (lw_in5 _ (List.mem_of_getElem? (i := 223) (by decide +kernel))) (by decide +kernel)
theorem m_196 : Cond.code yX5_revoke cX5_revoke 3 (some .boolean) ∈ xb := xb_mk (lw_in2 _ (List.mem_of_getElem? (i := 182) (by decide +kernel))) (by decide +kernel)
theorem m_197 : Cond.code yX5_key cX5_key 2 (some .int) ∈ xb := xb_mk (lw_in5 _ (List.mem_of_getElem? (i := 156) (by decide +kernel))) (by decide +kernel)
theorem m_198 : Cond.code yX5_count cX5_count 2 (some .int) ∈ xb := xb_mk (lw_in5 _ (List.mem_of_getElem? (i := 234) (by decide +kernel))) (by decide +kernel)
theorem m_199 : Cond.code yX5_call cX5_call 2 (some .int) ∈ xb := xb_mk (lw_in1 _ (List.mem_of_getElem? (i := 196) (by decide +kernel))) (by decide +kernel)
theorem m_200 : Cond.code yX3_init cX3_init 2 none ∈ xb := xb_mk (lw_in1 _ (List.mem_of_getElem? (i := 34) (by decide +kernel))) (by decide +kernel)
theorem m_201 : Cond.code yX1_init cX1_init 2 none ∈ xb := xb_mk (lw_in1 _ (List.mem_of_getElem? (i := 85) (by decide +kernel))) (by decide +kernel)
theorem m_202 : Cond.code yX5_init cX5_init 1 none ∈ xb := xb_mk (lw_in1 _ (List.mem_of_getElem? (i := 26) (by decide +kernel))) (by decide +kernel)
theorem m_203 : Cond.methodLink RX0 3 objectInit ∈ xb := xb_mk (lw_in1 _ (List.mem_of_getElem? (i := 93) (by decide +kernel))) (by decide +kernel)
theorem m_204 : Cond.methodLink RX2 3 objectInit ∈ xb := xb_mk (lw_in1 _ (List.mem_of_getElem? (i := 127) (by decide +kernel))) (by decide +kernel)
theorem m_205 : Cond.arrayClass FieldType.int ∈ xb := xb_mk (lw_in1 _ (List.mem_of_getElem? (i := 79) (by decide +kernel))) (by decide +kernel)
theorem m_206 : Cond.fieldLink RX2 11 "ObjectRules$KeyLists" "row" "[I" ∈ xb := xb_mk (lw_in1 _ (List.mem_of_getElem? (i := 128) (by decide +kernel))) (by decide +kernel)
theorem m_207 : Cond.fieldLink RX2 15 "ObjectRules$KeyLists" "seen" "[I" ∈ xb := xb_mk (lw_in1 _ (List.mem_of_getElem? (i := 129) (by decide +kernel))) (by decide +kernel)
theorem m_208 : Cond.methodLink RX4 3 objectInit ∈ xb := xb_mk (lw_in1 _ (List.mem_of_getElem? (i := 143) (by decide +kernel))) (by decide +kernel)
theorem m_209 : Cond.fieldLink RX4 9 "ObjectRules$Trapless" "heights" "[I" ∈ xb := xb_mk (lw_in1 _ (List.mem_of_getElem? (i := 144) (by decide +kernel))) (by decide +kernel)
theorem m_210 : Cond.fieldLink RX4 15 "ObjectRules$Trapless" "moments" "[I" ∈ xb := xb_mk (lw_in1 _ (List.mem_of_getElem? (i := 145) (by decide +kernel))) (by decide +kernel)
theorem m_211 : Cond.fieldLink RX4 18 "ObjectRules$Trapless" "moment" "I" ∈ xb := xb_mk (lw_in1 _ (List.mem_of_getElem? (i := 146) (by decide +kernel))) (by decide +kernel)
theorem m_212 : Cond.fieldLink RX2 18 "ObjectRules$KeyLists" "used" "I" ∈ xb := xb_mk (lw_in1 _ (List.mem_of_getElem? (i := 130) (by decide +kernel))) (by decide +kernel)
theorem m_213 : Cond.fieldLink RX3 49 "ObjectRules$Store" "objects" "I" ∈ xb := xb_mk (lw_in1 _ (List.mem_of_getElem? (i := 43) (by decide +kernel))) (by decide +kernel)
theorem m_214 : Cond.methodLink RX3 83 yX3_rowOf ∈ xb := xb_mk (lw_in1 _ (List.mem_of_getElem? (i := 230) (by decide +kernel))) (by decide +kernel)
theorem m_215 : Cond.instanceMethod yX3_rowOf ∈ xb := xb_mk (lw_in1 _ (List.mem_of_getElem? (i := 232) (by decide +kernel))) (by decide +kernel)
theorem m_216 : Cond.selects RX3 yX3_rowOf yX3_rowOf ∈ xb := xb_mk (List.mem_append_left _ (List.mem_of_getElem? (i := 3) (by decide +kernel))) (by decide +kernel)
theorem m_217 : Cond.initialized RX3 ∈ xb := xb_mk (lw_in1 _ (List.mem_of_getElem? (i := 2) (by decide +kernel))) (by decide +kernel)
theorem m_218 : Cond.methodLink RX3 87 yX3_kindOf ∈ xb := xb_mk (lw_in2 _ (List.mem_of_getElem? (i := 187) (by decide +kernel))) (by decide +kernel)
theorem m_219 : Cond.instanceMethod yX3_kindOf ∈ xb := xb_mk (lw_in2 _ (List.mem_of_getElem? (i := 189) (by decide +kernel))) (by decide +kernel)
theorem m_220 : Cond.selects RX3 yX3_kindOf yX3_kindOf ∈ xb := xb_mk (List.mem_append_left _ (List.mem_of_getElem? (i := 15) (by decide +kernel))) (by decide +kernel)
theorem m_221 : Cond.fieldLink RX5 118 "ObjectRules" "depth" "I" ∈ xb := xb_mk (lw_in1 _ (List.mem_of_getElem? (i := 166) (by decide +kernel))) (by decide +kernel)
theorem m_222 : Cond.fieldLink RX5 202 "ObjectRules" "calledCount" "I" ∈ xb := xb_mk (lw_in1 _ (List.mem_of_getElem? (i := 164) (by decide +kernel))) (by decide +kernel)
theorem m_223 : Cond.fieldLink RX5 26 "ObjectRules" "lists" "LObjectRules$KeyLists;" ∈ xb := xb_mk (lw_in1 _ (List.mem_of_getElem? (i := 158) (by decide +kernel))) (by decide +kernel)
theorem m_224 : Cond.methodLink RX5 210 yX2_cutTo ∈ xb := xb_mk (lw_in1 _ (List.mem_of_getElem? (i := 210) (by decide +kernel))) (by decide +kernel)
theorem m_225 : Cond.instanceMethod yX2_cutTo ∈ xb := xb_mk (lw_in1 _ (List.mem_of_getElem? (i := 211) (by decide +kernel))) (by decide +kernel)
theorem m_226 : Cond.selects RX2 yX2_cutTo yX2_cutTo ∈ xb := xb_mk (lw_in1 _ (List.mem_of_getElem? (i := 212) (by decide +kernel))) (by decide +kernel)
theorem m_227 : Cond.initialized RX2 ∈ xb := xb_mk (lw_in1 _ (List.mem_of_getElem? (i := 5) (by decide +kernel))) (by decide +kernel)
theorem m_228 : Cond.fieldLink RX5 33 "ObjectRules" "trapless" "LObjectRules$Trapless;" ∈ xb := xb_mk (lw_in1 _ (List.mem_of_getElem? (i := 159) (by decide +kernel))) (by decide +kernel)
theorem m_229 : Cond.methodLink RX5 213 yX4_forget ∈ xb := xb_mk (lw_in1 _ (List.mem_of_getElem? (i := 214) (by decide +kernel))) (by decide +kernel)
theorem m_230 : Cond.instanceMethod yX4_forget ∈ xb := xb_mk (lw_in1 _ (List.mem_of_getElem? (i := 215) (by decide +kernel))) (by decide +kernel)
theorem m_231 : Cond.selects RX4 yX4_forget yX4_forget ∈ xb := xb_mk (lw_in1 _ (List.mem_of_getElem? (i := 216) (by decide +kernel))) (by decide +kernel)
theorem m_232 : Cond.initialized RX4 ∈ xb := xb_mk (lw_in1 _ (List.mem_of_getElem? (i := 6) (by decide +kernel))) (by decide +kernel)
theorem m_233 : Cond.fieldLink RX5 12 "ObjectRules" "store" "LObjectRules$Store;" ∈ xb := xb_mk (lw_in1 _ (List.mem_of_getElem? (i := 156) (by decide +kernel))) (by decide +kernel)
theorem m_234 : Cond.methodLink RX5 216 yX3_isObject ∈ xb := xb_mk (lw_in1 _ (List.mem_of_getElem? (i := 226) (by decide +kernel))) (by decide +kernel)
theorem m_235 : Cond.instanceMethod yX3_isObject ∈ xb := xb_mk (lw_in1 _ (List.mem_of_getElem? (i := 227) (by decide +kernel))) (by decide +kernel)
theorem m_236 : Cond.selects RX3 yX3_isObject yX3_isObject ∈ xb := xb_mk (lw_in1 _ (List.mem_of_getElem? (i := 228) (by decide +kernel))) (by decide +kernel)
theorem m_237 : Cond.methodLink RX5 88 yX5_requireObject ∈ xb := xb_mk (lw_in1 _ (List.mem_of_getElem? (i := 222) (by decide +kernel))) (by decide +kernel)
theorem m_238 : Cond.instanceMethod yX5_requireObject ∈ xb := xb_mk (lw_in1 _ (List.mem_of_getElem? (i := 224) (by decide +kernel))) (by decide +kernel)
theorem m_239 : Cond.selects RX5 yX5_requireObject yX5_requireObject ∈ xb := xb_mk (List.mem_append_left _ (List.mem_of_getElem? (i := 2) (by decide +kernel))) (by decide +kernel)
theorem m_240 : Cond.initialized RX5 ∈ xb := xb_mk (lw_in1 _ (List.mem_of_getElem? (i := 1) (by decide +kernel))) (by decide +kernel)
theorem m_241 : Cond.fieldLink RX3 9 "ObjectRules$Store" "kinds" "[I" ∈ xb := xb_mk (lw_in1 _ (List.mem_of_getElem? (i := 36) (by decide +kernel))) (by decide +kernel)
theorem m_242 : Cond.fieldLink RX3 15 "ObjectRules$Store" "parents" "[I" ∈ xb := xb_mk (lw_in1 _ (List.mem_of_getElem? (i := 37) (by decide +kernel))) (by decide +kernel)
theorem m_243 : Cond.fieldLink RX3 18 "ObjectRules$Store" "opens" "[Z" ∈ xb := xb_mk (lw_in1 _ (List.mem_of_getElem? (i := 38) (by decide +kernel))) (by decide +kernel)
theorem m_244 : Cond.fieldLink RX3 22 "ObjectRules$Store" "firstSlots" "[I" ∈ xb := xb_mk (lw_in1 _ (List.mem_of_getElem? (i := 39) (by decide +kernel))) (by decide +kernel)
theorem m_245 : Cond.methodLink RX3 53 yX3_add ∈ xb := xb_mk (lw_in2 _ (List.mem_of_getElem? (i := 70) (by decide +kernel))) (by decide +kernel)
theorem m_246 : Cond.instanceMethod yX3_add ∈ xb := xb_mk (lw_in2 _ (List.mem_of_getElem? (i := 72) (by decide +kernel))) (by decide +kernel)
theorem m_247 : Cond.selects RX3 yX3_add yX3_add ∈ xb := xb_mk (List.mem_append_left _ (List.mem_of_getElem? (i := 5) (by decide +kernel))) (by decide +kernel)
theorem m_248 : Cond.methodLink RX3 107 yX3_isSlot ∈ xb := xb_mk (lw_in2 _ (List.mem_of_getElem? (i := 107) (by decide +kernel))) (by decide +kernel)
theorem m_249 : Cond.instanceMethod yX3_isSlot ∈ xb := xb_mk (lw_in2 _ (List.mem_of_getElem? (i := 109) (by decide +kernel))) (by decide +kernel)
theorem m_250 : Cond.selects RX3 yX3_isSlot yX3_isSlot ∈ xb := xb_mk (List.mem_append_left _ (List.mem_of_getElem? (i := 6) (by decide +kernel))) (by decide +kernel)
theorem m_251 : Cond.fieldLink RX3 57 "ObjectRules$Store" "firstFree" "I" ∈ xb := xb_mk (lw_in1 _ (List.mem_of_getElem? (i := 49) (by decide +kernel))) (by decide +kernel)
theorem m_252 : Cond.fieldLink RX3 46 "ObjectRules$Store" "slotNexts" "[I" ∈ xb := xb_mk (lw_in1 _ (List.mem_of_getElem? (i := 48) (by decide +kernel))) (by decide +kernel)
theorem m_253 : Cond.fieldLink RX3 34 "ObjectRules$Store" "slotKeys" "[I" ∈ xb := xb_mk (lw_in1 _ (List.mem_of_getElem? (i := 44) (by decide +kernel))) (by decide +kernel)
theorem m_254 : Cond.fieldLink RX3 37 "ObjectRules$Store" "slotValues" "[I" ∈ xb := xb_mk (lw_in1 _ (List.mem_of_getElem? (i := 45) (by decide +kernel))) (by decide +kernel)
theorem m_255 : Cond.fieldLink RX3 40 "ObjectRules$Store" "slotSetters" "[I" ∈ xb := xb_mk (lw_in1 _ (List.mem_of_getElem? (i := 46) (by decide +kernel))) (by decide +kernel)
theorem m_256 : Cond.fieldLink RX3 43 "ObjectRules$Store" "slotFlags" "[I" ∈ xb := xb_mk (lw_in1 _ (List.mem_of_getElem? (i := 47) (by decide +kernel))) (by decide +kernel)
theorem m_257 : Cond.methodLink RX3 113 yX3_firstSlotOf ∈ xb := xb_mk (lw_in2 _ (List.mem_of_getElem? (i := 112) (by decide +kernel))) (by decide +kernel)
theorem m_258 : Cond.instanceMethod yX3_firstSlotOf ∈ xb := xb_mk (lw_in2 _ (List.mem_of_getElem? (i := 114) (by decide +kernel))) (by decide +kernel)
theorem m_259 : Cond.selects RX3 yX3_firstSlotOf yX3_firstSlotOf ∈ xb := xb_mk (List.mem_append_left _ (List.mem_of_getElem? (i := 7) (by decide +kernel))) (by decide +kernel)
theorem m_260 : Cond.methodLink RX3 122 yX3_slotBefore ∈ xb := xb_mk (lw_in2 _ (List.mem_of_getElem? (i := 116) (by decide +kernel))) (by decide +kernel)
theorem m_261 : Cond.instanceMethod yX3_slotBefore ∈ xb := xb_mk (lw_in2 _ (List.mem_of_getElem? (i := 118) (by decide +kernel))) (by decide +kernel)
theorem m_262 : Cond.selects RX3 yX3_slotBefore yX3_slotBefore ∈ xb := xb_mk (List.mem_append_left _ (List.mem_of_getElem? (i := 8) (by decide +kernel))) (by decide +kernel)
theorem m_263 : Cond.methodLink RX3 128 yX3_link ∈ xb := xb_mk (lw_in2 _ (List.mem_of_getElem? (i := 127) (by decide +kernel))) (by decide +kernel)
theorem m_264 : Cond.instanceMethod yX3_link ∈ xb := xb_mk (lw_in2 _ (List.mem_of_getElem? (i := 129) (by decide +kernel))) (by decide +kernel)
theorem m_265 : Cond.selects RX3 yX3_link yX3_link ∈ xb := xb_mk (List.mem_append_left _ (List.mem_of_getElem? (i := 10) (by decide +kernel))) (by decide +kernel)
theorem m_266 : Cond.methodLink RX3 67 yX3_append ∈ xb := xb_mk (lw_in2 _ (List.mem_of_getElem? (i := 103) (by decide +kernel))) (by decide +kernel)
theorem m_267 : Cond.instanceMethod yX3_append ∈ xb := xb_mk (lw_in2 _ (List.mem_of_getElem? (i := 104) (by decide +kernel))) (by decide +kernel)
theorem m_268 : Cond.selects RX3 yX3_append yX3_append ∈ xb := xb_mk (lw_in2 _ (List.mem_of_getElem? (i := 105) (by decide +kernel))) (by decide +kernel)
theorem m_269 : Cond.methodLink RX3 70 yX3_putValueAt ∈ xb := xb_mk (lw_in2 _ (List.mem_of_getElem? (i := 131) (by decide +kernel))) (by decide +kernel)
theorem m_270 : Cond.instanceMethod yX3_putValueAt ∈ xb := xb_mk (lw_in2 _ (List.mem_of_getElem? (i := 132) (by decide +kernel))) (by decide +kernel)
theorem m_271 : Cond.selects RX3 yX3_putValueAt yX3_putValueAt ∈ xb := xb_mk (lw_in2 _ (List.mem_of_getElem? (i := 133) (by decide +kernel))) (by decide +kernel)
theorem m_272 : Cond.methodLink RX3 74 yX3_putFlagsAt ∈ xb := xb_mk (lw_in2 _ (List.mem_of_getElem? (i := 135) (by decide +kernel))) (by decide +kernel)
theorem m_273 : Cond.instanceMethod yX3_putFlagsAt ∈ xb := xb_mk (lw_in2 _ (List.mem_of_getElem? (i := 137) (by decide +kernel))) (by decide +kernel)
theorem m_274 : Cond.selects RX3 yX3_putFlagsAt yX3_putFlagsAt ∈ xb := xb_mk (List.mem_append_left _ (List.mem_of_getElem? (i := 11) (by decide +kernel))) (by decide +kernel)
theorem m_275 : Cond.fieldLink RX3 25 "ObjectRules$Store" "firstParts" "[I" ∈ xb := xb_mk (lw_in1 _ (List.mem_of_getElem? (i := 40) (by decide +kernel))) (by decide +kernel)
theorem m_276 : Cond.fieldLink RX3 28 "ObjectRules$Store" "secondParts" "[I" ∈ xb := xb_mk (lw_in1 _ (List.mem_of_getElem? (i := 41) (by decide +kernel))) (by decide +kernel)
theorem m_277 : Cond.fieldLink RX3 31 "ObjectRules$Store" "thirdParts" "[I" ∈ xb := xb_mk (lw_in1 _ (List.mem_of_getElem? (i := 42) (by decide +kernel))) (by decide +kernel)
theorem m_278 : Cond.methodLink RX3 77 yX3_putParts ∈ xb := xb_mk (lw_in2 _ (List.mem_of_getElem? (i := 161) (by decide +kernel))) (by decide +kernel)
theorem m_279 : Cond.instanceMethod yX3_putParts ∈ xb := xb_mk (lw_in2 _ (List.mem_of_getElem? (i := 163) (by decide +kernel))) (by decide +kernel)
theorem m_280 : Cond.selects RX3 yX3_putParts yX3_putParts ∈ xb := xb_mk (List.mem_append_left _ (List.mem_of_getElem? (i := 14) (by decide +kernel))) (by decide +kernel)
theorem m_281 : Cond.methodLink RX5 55 yX5_begin ∈ xb := xb_mk (lw_in1 _ (List.mem_of_getElem? (i := 206) (by decide +kernel))) (by decide +kernel)
theorem m_282 : Cond.instanceMethod yX5_begin ∈ xb := xb_mk (lw_in1 _ (List.mem_of_getElem? (i := 208) (by decide +kernel))) (by decide +kernel)
theorem m_283 : Cond.selects RX5 yX5_begin yX5_begin ∈ xb := xb_mk (List.mem_append_left _ (List.mem_of_getElem? (i := 0) (by decide +kernel))) (by decide +kernel)
theorem m_284 : Cond.methodLink RX5 58 yX5_requirePrototype ∈ xb := xb_mk (lw_in1 _ (List.mem_of_getElem? (i := 218) (by decide +kernel))) (by decide +kernel)
theorem m_285 : Cond.instanceMethod yX5_requirePrototype ∈ xb := xb_mk (lw_in1 _ (List.mem_of_getElem? (i := 220) (by decide +kernel))) (by decide +kernel)
theorem m_286 : Cond.selects RX5 yX5_requirePrototype yX5_requirePrototype ∈ xb := xb_mk (List.mem_append_left _ (List.mem_of_getElem? (i := 1) (by decide +kernel))) (by decide +kernel)
theorem m_287 : Cond.methodLink RX5 62 yX3_addOrdinary ∈ xb := xb_mk (lw_in2 _ (List.mem_of_getElem? (i := 66) (by decide +kernel))) (by decide +kernel)
theorem m_288 : Cond.instanceMethod yX3_addOrdinary ∈ xb := xb_mk (lw_in2 _ (List.mem_of_getElem? (i := 67) (by decide +kernel))) (by decide +kernel)
theorem m_289 : Cond.selects RX3 yX3_addOrdinary yX3_addOrdinary ∈ xb := xb_mk (lw_in2 _ (List.mem_of_getElem? (i := 68) (by decide +kernel))) (by decide +kernel)
theorem m_290 : Cond.methodLink RX5 73 yX3_addArray ∈ xb := xb_mk (lw_in2 _ (List.mem_of_getElem? (i := 98) (by decide +kernel))) (by decide +kernel)
theorem m_291 : Cond.instanceMethod yX3_addArray ∈ xb := xb_mk (lw_in2 _ (List.mem_of_getElem? (i := 99) (by decide +kernel))) (by decide +kernel)
theorem m_292 : Cond.selects RX3 yX3_addArray yX3_addArray ∈ xb := xb_mk (lw_in2 _ (List.mem_of_getElem? (i := 100) (by decide +kernel))) (by decide +kernel)
theorem m_293 : Cond.methodLink RX5 78 yX5_requireKey ∈ xb := xb_mk (lw_in2 _ (List.mem_of_getElem? (i := 147) (by decide +kernel))) (by decide +kernel)
theorem m_294 : Cond.instanceMethod yX5_requireKey ∈ xb := xb_mk (lw_in2 _ (List.mem_of_getElem? (i := 149) (by decide +kernel))) (by decide +kernel)
theorem m_295 : Cond.selects RX5 yX5_requireKey yX5_requireKey ∈ xb := xb_mk (List.mem_append_left _ (List.mem_of_getElem? (i := 12) (by decide +kernel))) (by decide +kernel)
theorem m_296 : Cond.methodLink RX5 81 yX5_requireValue ∈ xb := xb_mk (lw_in2 _ (List.mem_of_getElem? (i := 152) (by decide +kernel))) (by decide +kernel)
theorem m_297 : Cond.instanceMethod yX5_requireValue ∈ xb := xb_mk (lw_in2 _ (List.mem_of_getElem? (i := 154) (by decide +kernel))) (by decide +kernel)
theorem m_298 : Cond.selects RX5 yX5_requireValue yX5_requireValue ∈ xb := xb_mk (List.mem_append_left _ (List.mem_of_getElem? (i := 13) (by decide +kernel))) (by decide +kernel)
theorem m_299 : Cond.methodLink RX5 84 yX3_addFunction ∈ xb := xb_mk (lw_in2 _ (List.mem_of_getElem? (i := 157) (by decide +kernel))) (by decide +kernel)
theorem m_300 : Cond.instanceMethod yX3_addFunction ∈ xb := xb_mk (lw_in2 _ (List.mem_of_getElem? (i := 158) (by decide +kernel))) (by decide +kernel)
theorem m_301 : Cond.selects RX3 yX3_addFunction yX3_addFunction ∈ xb := xb_mk (lw_in2 _ (List.mem_of_getElem? (i := 159) (by decide +kernel))) (by decide +kernel)
theorem m_302 : Cond.methodLink RX5 95 yX3_isProxy ∈ xb := xb_mk (lw_in2 _ (List.mem_of_getElem? (i := 183) (by decide +kernel))) (by decide +kernel)
theorem m_303 : Cond.instanceMethod yX3_isProxy ∈ xb := xb_mk (lw_in2 _ (List.mem_of_getElem? (i := 184) (by decide +kernel))) (by decide +kernel)
theorem m_304 : Cond.selects RX3 yX3_isProxy yX3_isProxy ∈ xb := xb_mk (lw_in2 _ (List.mem_of_getElem? (i := 185) (by decide +kernel))) (by decide +kernel)
theorem m_305 : Cond.fieldLink RX5 172 "ObjectRules" "heldCount" "I" ∈ xb := xb_mk (lw_in1 _ (List.mem_of_getElem? (i := 163) (by decide +kernel))) (by decide +kernel)
theorem m_306 : Cond.methodLink RX5 205 yX3_size ∈ xb := xb_mk (lw_in5 _ (List.mem_of_getElem? (i := 235) (by decide +kernel))) (by decide +kernel)
theorem m_307 : Cond.instanceMethod yX3_size ∈ xb := xb_mk (lw_in5 _ (List.mem_of_getElem? (i := 236) (by decide +kernel))) (by decide +kernel)
theorem m_308 : Cond.selects RX3 yX3_size yX3_size ∈ xb := xb_mk (lw_in5 _ (List.mem_of_getElem? (i := 237) (by decide +kernel))) (by decide +kernel)
theorem m_309 : Cond.fieldLink RX5 51 "ObjectRules" "thrownLatest" "I" ∈ xb := xb_mk (lw_in1 _ (List.mem_of_getElem? (i := 165) (by decide +kernel))) (by decide +kernel)
theorem m_310 : Cond.methodLink RX3 3 objectInit ∈ xb := xb_mk (lw_in1 _ (List.mem_of_getElem? (i := 35) (by decide +kernel))) (by decide +kernel)
theorem m_311 : Cond.arrayClass FieldType.boolean ∈ xb := xb_mk (lw_in1 _ (List.mem_of_getElem? (i := 80) (by decide +kernel))) (by decide +kernel)
theorem m_312 : Cond.methodLink RX1 3 objectInit ∈ xb := xb_mk (lw_in1 _ (List.mem_of_getElem? (i := 86) (by decide +kernel))) (by decide +kernel)
theorem m_313 : Cond.classLink RX1 11 RX0 ∈ xb := xb_mk (lw_in1 _ (List.mem_of_getElem? (i := 87) (by decide +kernel))) (by decide +kernel)
theorem m_314 : Cond.fieldLink RX1 13 "ObjectRules$Descriptors" "row" "[LObjectRules$Descriptor;" ∈ xb := xb_mk (lw_in1 _ (List.mem_of_getElem? (i := 118) (by decide +kernel))) (by decide +kernel)
theorem m_315 : Cond.instantiable RX0 5 ∈ xb := xb_mk (lw_in1 _ (List.mem_of_getElem? (i := 89) (by decide +kernel))) (by decide +kernel)
theorem m_316 : Cond.initialized RX0 ∈ xb := xb_mk (lw_in1 _ (List.mem_of_getElem? (i := 4) (by decide +kernel))) (by decide +kernel)
theorem m_317 : Cond.instanceMethod yX0_init ∈ xb := xb_mk (lw_in1 _ (List.mem_of_getElem? (i := 91) (by decide +kernel))) (by decide +kernel)
theorem m_318 : Cond.methodLink RX5 3 objectInit ∈ xb := xb_mk (lw_in1 _ (List.mem_of_getElem? (i := 27) (by decide +kernel))) (by decide +kernel)
theorem m_319 : Cond.classLink RX5 9 RX3 ∈ xb := xb_mk (lw_in1 _ (List.mem_of_getElem? (i := 30) (by decide +kernel))) (by decide +kernel)
theorem m_320 : Cond.instantiable RX3 14 ∈ xb := xb_mk (lw_in1 _ (List.mem_of_getElem? (i := 31) (by decide +kernel))) (by decide +kernel)
theorem m_321 : Cond.methodLink RX5 11 yX3_init ∈ xb := xb_mk (lw_in1 _ (List.mem_of_getElem? (i := 32) (by decide +kernel))) (by decide +kernel)
theorem m_322 : Cond.instanceMethod yX3_init ∈ xb := xb_mk (lw_in1 _ (List.mem_of_getElem? (i := 33) (by decide +kernel))) (by decide +kernel)
theorem m_323 : Cond.classLink RX5 16 RX1 ∈ xb := xb_mk (lw_in1 _ (List.mem_of_getElem? (i := 81) (by decide +kernel))) (by decide +kernel)
theorem m_324 : Cond.instantiable RX1 1 ∈ xb := xb_mk (lw_in1 _ (List.mem_of_getElem? (i := 82) (by decide +kernel))) (by decide +kernel)
theorem m_325 : Cond.initialized RX1 ∈ xb := xb_mk (lw_in1 _ (List.mem_of_getElem? (i := 3) (by decide +kernel))) (by decide +kernel)
theorem m_326 : Cond.methodLink RX5 18 yX1_init ∈ xb := xb_mk (lw_in1 _ (List.mem_of_getElem? (i := 83) (by decide +kernel))) (by decide +kernel)
theorem m_327 : Cond.instanceMethod yX1_init ∈ xb := xb_mk (lw_in1 _ (List.mem_of_getElem? (i := 84) (by decide +kernel))) (by decide +kernel)
theorem m_328 : Cond.fieldLink RX5 19 "ObjectRules" "descriptors" "LObjectRules$Descriptors;" ∈ xb := xb_mk (lw_in1 _ (List.mem_of_getElem? (i := 157) (by decide +kernel))) (by decide +kernel)
theorem m_329 : Cond.classLink RX5 23 RX2 ∈ xb := xb_mk (lw_in1 _ (List.mem_of_getElem? (i := 122) (by decide +kernel))) (by decide +kernel)
theorem m_330 : Cond.instantiable RX2 3 ∈ xb := xb_mk (lw_in1 _ (List.mem_of_getElem? (i := 123) (by decide +kernel))) (by decide +kernel)
theorem m_331 : Cond.instanceMethod yX2_init ∈ xb := xb_mk (lw_in1 _ (List.mem_of_getElem? (i := 125) (by decide +kernel))) (by decide +kernel)
theorem m_332 : Cond.classLink RX5 30 RX4 ∈ xb := xb_mk (lw_in1 _ (List.mem_of_getElem? (i := 138) (by decide +kernel))) (by decide +kernel)
theorem m_333 : Cond.instantiable RX4 3 ∈ xb := xb_mk (lw_in1 _ (List.mem_of_getElem? (i := 139) (by decide +kernel))) (by decide +kernel)
theorem m_334 : Cond.instanceMethod yX4_init ∈ xb := xb_mk (lw_in1 _ (List.mem_of_getElem? (i := 141) (by decide +kernel))) (by decide +kernel)
theorem m_335 : Cond.classLink RX5 37 RX0 ∈ xb := xb_mk (lw_in1 _ (List.mem_of_getElem? (i := 154) (by decide +kernel))) (by decide +kernel)
theorem m_336 : Cond.fieldLink RX5 40 "ObjectRules" "current" "LObjectRules$Descriptor;" ∈ xb := xb_mk (lw_in1 _ (List.mem_of_getElem? (i := 160) (by decide +kernel))) (by decide +kernel)
theorem m_337 : Cond.fieldLink RX5 44 "ObjectRules" "heldKeys" "[I" ∈ xb := xb_mk (lw_in1 _ (List.mem_of_getElem? (i := 161) (by decide +kernel))) (by decide +kernel)
theorem m_338 : Cond.fieldLink RX5 48 "ObjectRules" "called" "[I" ∈ xb := xb_mk (lw_in1 _ (List.mem_of_getElem? (i := 162) (by decide +kernel))) (by decide +kernel)
theorem inX0 : ∀ w ∈ u_ws RX0 TX0 5, w ∈ xb := show ∀ w ∈ ([(Jvm.Cond.lays "ObjectRules$Descriptor" "ObjectRules$Descriptor" "fields" "I"), (Jvm.Cond.lays "ObjectRules$Descriptor" "ObjectRules$Descriptor" "truths" "I"), (Jvm.Cond.lays "ObjectRules$Descriptor" "ObjectRules$Descriptor" "value" "I"), (Jvm.Cond.lays "ObjectRules$Descriptor" "ObjectRules$Descriptor" "getter" "I"), (Jvm.Cond.lays "ObjectRules$Descriptor" "ObjectRules$Descriptor" "setter" "I")] : List Cond), w ∈ xb from List.forall_mem_cons.mpr ⟨m_0, List.forall_mem_cons.mpr ⟨m_1, List.forall_mem_cons.mpr ⟨m_2, List.forall_mem_cons.mpr ⟨m_3, List.forall_mem_cons.mpr ⟨m_4, fun _ h => absurd h List.not_mem_nil⟩⟩⟩⟩⟩
theorem nfX0 : ∀ j, j < 5 → defaultValue (tyX0 j) = vp_V [.int 0, .int 0, .int 0, .int 0, .int 0] j := by decide +kernel
theorem inX1 : ∀ w ∈ u_ws RX1 TX1 1, w ∈ xb := show ∀ w ∈ ([(Jvm.Cond.laysFinal "ObjectRules$Descriptors" "ObjectRules$Descriptors" "row" "[LObjectRules$Descriptor;")] : List Cond), w ∈ xb from List.forall_mem_cons.mpr ⟨m_5, fun _ h => absurd h List.not_mem_nil⟩
theorem nfX1 : ∀ j, j < 1 → defaultValue (tyX1 j) = vp_V [.null] j := by decide +kernel
theorem inX2 : ∀ w ∈ u_ws RX2 TX2 3, w ∈ xb := show ∀ w ∈ ([(Jvm.Cond.laysFinal "ObjectRules$KeyLists" "ObjectRules$KeyLists" "row" "[I"), (Jvm.Cond.laysFinal "ObjectRules$KeyLists" "ObjectRules$KeyLists" "seen" "[I"), (Jvm.Cond.lays "ObjectRules$KeyLists" "ObjectRules$KeyLists" "used" "I")] : List Cond), w ∈ xb from List.forall_mem_cons.mpr ⟨m_6, List.forall_mem_cons.mpr ⟨m_7, List.forall_mem_cons.mpr ⟨m_8, fun _ h => absurd h List.not_mem_nil⟩⟩⟩
theorem nfX2 : ∀ j, j < 3 → defaultValue (tyX2 j) = vp_V [.null, .null, .int 0] j := by decide +kernel
theorem inX3 : ∀ w ∈ u_ws RX3 TX3 14, w ∈ xb := show ∀ w ∈ ([(Jvm.Cond.laysFinal "ObjectRules$Store" "ObjectRules$Store" "kinds" "[I"), (Jvm.Cond.laysFinal "ObjectRules$Store" "ObjectRules$Store" "parents" "[I"), (Jvm.Cond.laysFinal "ObjectRules$Store" "ObjectRules$Store" "opens" "[Z"), (Jvm.Cond.laysFinal "ObjectRules$Store" "ObjectRules$Store" "firstSlots" "[I"), (Jvm.Cond.laysFinal "ObjectRules$Store" "ObjectRules$Store" "firstParts" "[I"), (Jvm.Cond.laysFinal "ObjectRules$Store" "ObjectRules$Store" "secondParts" "[I"), (Jvm.Cond.laysFinal "ObjectRules$Store" "ObjectRules$Store" "thirdParts" "[I"), (Jvm.Cond.lays "ObjectRules$Store" "ObjectRules$Store" "objects" "I"), (Jvm.Cond.laysFinal "ObjectRules$Store" "ObjectRules$Store" "slotKeys" "[I"), (Jvm.Cond.laysFinal "ObjectRules$Store" "ObjectRules$Store" "slotValues" "[I"), (Jvm.Cond.laysFinal "ObjectRules$Store" "ObjectRules$Store" "slotSetters" "[I"), (Jvm.Cond.laysFinal "ObjectRules$Store" "ObjectRules$Store" "slotFlags" "[I"), (Jvm.Cond.laysFinal "ObjectRules$Store" "ObjectRules$Store" "slotNexts" "[I"), (Jvm.Cond.lays "ObjectRules$Store" "ObjectRules$Store" "firstFree" "I")] : List Cond), w ∈ xb from List.forall_mem_cons.mpr ⟨m_9, List.forall_mem_cons.mpr ⟨m_10, List.forall_mem_cons.mpr ⟨m_11, List.forall_mem_cons.mpr ⟨m_12, List.forall_mem_cons.mpr ⟨m_13, List.forall_mem_cons.mpr ⟨m_14, List.forall_mem_cons.mpr ⟨m_15, List.forall_mem_cons.mpr ⟨m_16, List.forall_mem_cons.mpr ⟨m_17, List.forall_mem_cons.mpr ⟨m_18, List.forall_mem_cons.mpr ⟨m_19, List.forall_mem_cons.mpr ⟨m_20, List.forall_mem_cons.mpr ⟨m_21, List.forall_mem_cons.mpr ⟨m_22, fun _ h => absurd h List.not_mem_nil⟩⟩⟩⟩⟩⟩⟩⟩⟩⟩⟩⟩⟩⟩
theorem nfX3 : ∀ j, j < 14 → defaultValue (tyX3 j) = vp_V [.null, .null, .null, .null, .null, .null, .null, .int 0, .null, .null, .null, .null, .null, .int 0] j := by decide +kernel
theorem inX4 : ∀ w ∈ u_ws RX4 TX4 3, w ∈ xb := show ∀ w ∈ ([(Jvm.Cond.laysFinal "ObjectRules$Trapless" "ObjectRules$Trapless" "heights" "[I"), (Jvm.Cond.laysFinal "ObjectRules$Trapless" "ObjectRules$Trapless" "moments" "[I"), (Jvm.Cond.lays "ObjectRules$Trapless" "ObjectRules$Trapless" "moment" "I")] : List Cond), w ∈ xb from List.forall_mem_cons.mpr ⟨m_23, List.forall_mem_cons.mpr ⟨m_24, List.forall_mem_cons.mpr ⟨m_25, fun _ h => absurd h List.not_mem_nil⟩⟩⟩
theorem nfX4 : ∀ j, j < 3 → defaultValue (tyX4 j) = vp_V [.null, .null, .int 0] j := by decide +kernel
theorem inX5 : ∀ w ∈ u_ws RX5 TX5 12, w ∈ xb := show ∀ w ∈ ([(Jvm.Cond.laysFinal "ObjectRules" "ObjectRules" "store" "LObjectRules$Store;"), (Jvm.Cond.laysFinal "ObjectRules" "ObjectRules" "descriptors" "LObjectRules$Descriptors;"), (Jvm.Cond.laysFinal "ObjectRules" "ObjectRules" "lists" "LObjectRules$KeyLists;"), (Jvm.Cond.laysFinal "ObjectRules" "ObjectRules" "trapless" "LObjectRules$Trapless;"), (Jvm.Cond.laysFinal "ObjectRules" "ObjectRules" "current" "LObjectRules$Descriptor;"), (Jvm.Cond.laysFinal "ObjectRules" "ObjectRules" "heldKeys" "[I"), (Jvm.Cond.laysFinal "ObjectRules" "ObjectRules" "called" "[I"), (Jvm.Cond.lays "ObjectRules" "ObjectRules" "heldCount" "I"), (Jvm.Cond.lays "ObjectRules" "ObjectRules" "calledCount" "I"), (Jvm.Cond.lays "ObjectRules" "ObjectRules" "thrownLatest" "I"), (Jvm.Cond.lays "ObjectRules" "ObjectRules" "depth" "I"), (Jvm.Cond.lays "ObjectRules" "ObjectRules" "deepest" "I")] : List Cond), w ∈ xb from List.forall_mem_cons.mpr ⟨m_26, List.forall_mem_cons.mpr ⟨m_27, List.forall_mem_cons.mpr ⟨m_28, List.forall_mem_cons.mpr ⟨m_29, List.forall_mem_cons.mpr ⟨m_30, List.forall_mem_cons.mpr ⟨m_31, List.forall_mem_cons.mpr ⟨m_32, List.forall_mem_cons.mpr ⟨m_33, List.forall_mem_cons.mpr ⟨m_34, List.forall_mem_cons.mpr ⟨m_35, List.forall_mem_cons.mpr ⟨m_36, List.forall_mem_cons.mpr ⟨m_37, fun _ h => absurd h List.not_mem_nil⟩⟩⟩⟩⟩⟩⟩⟩⟩⟩⟩⟩
theorem nfX5 : ∀ j, j < 12 → defaultValue (tyX5 j) = vp_V [.null, .null, .null, .null, .null, .null, .null, .int 0, .int 0, .int 0, .int 0, .int 0] j := by decide +kernel
theorem inX6 : ∀ w ∈ u_ws RX6 TX6 12, w ∈ xb := show ∀ w ∈ ([(Jvm.Cond.lays "ObjectRulesModel$Desc" "ObjectRulesModel$Desc" "hasValue" "Z"), (Jvm.Cond.lays "ObjectRulesModel$Desc" "ObjectRulesModel$Desc" "hasWritable" "Z"), (Jvm.Cond.lays "ObjectRulesModel$Desc" "ObjectRulesModel$Desc" "hasGet" "Z"), (Jvm.Cond.lays "ObjectRulesModel$Desc" "ObjectRulesModel$Desc" "hasSet" "Z"), (Jvm.Cond.lays "ObjectRulesModel$Desc" "ObjectRulesModel$Desc" "hasEnumerable" "Z"), (Jvm.Cond.lays "ObjectRulesModel$Desc" "ObjectRulesModel$Desc" "hasConfigurable" "Z"), (Jvm.Cond.lays "ObjectRulesModel$Desc" "ObjectRulesModel$Desc" "writable" "Z"), (Jvm.Cond.lays "ObjectRulesModel$Desc" "ObjectRulesModel$Desc" "enumerable" "Z"), (Jvm.Cond.lays "ObjectRulesModel$Desc" "ObjectRulesModel$Desc" "configurable" "Z"), (Jvm.Cond.lays "ObjectRulesModel$Desc" "ObjectRulesModel$Desc" "value" "I"), (Jvm.Cond.lays "ObjectRulesModel$Desc" "ObjectRulesModel$Desc" "get" "I"), (Jvm.Cond.lays "ObjectRulesModel$Desc" "ObjectRulesModel$Desc" "set" "I")] : List Cond), w ∈ xb from List.forall_mem_cons.mpr ⟨m_38, List.forall_mem_cons.mpr ⟨m_39, List.forall_mem_cons.mpr ⟨m_40, List.forall_mem_cons.mpr ⟨m_41, List.forall_mem_cons.mpr ⟨m_42, List.forall_mem_cons.mpr ⟨m_43, List.forall_mem_cons.mpr ⟨m_44, List.forall_mem_cons.mpr ⟨m_45, List.forall_mem_cons.mpr ⟨m_46, List.forall_mem_cons.mpr ⟨m_47, List.forall_mem_cons.mpr ⟨m_48, List.forall_mem_cons.mpr ⟨m_49, fun _ h => absurd h List.not_mem_nil⟩⟩⟩⟩⟩⟩⟩⟩⟩⟩⟩⟩
theorem nfX6 : ∀ j, j < 12 → defaultValue (tyX6 j) = vp_V [.int 0, .int 0, .int 0, .int 0, .int 0, .int 0, .int 0, .int 0, .int 0, .int 0, .int 0, .int 0] j := by decide +kernel
theorem inX7 : ∀ w ∈ u_ws RX7 TX7 2, w ∈ xb := show ∀ w ∈ ([(Jvm.Cond.laysFinal "ObjectRulesModel$Keys" "ObjectRulesModel$Keys" "at" "[I"), (Jvm.Cond.lays "ObjectRulesModel$Keys" "ObjectRulesModel$Keys" "many" "I")] : List Cond), w ∈ xb from List.forall_mem_cons.mpr ⟨m_50, List.forall_mem_cons.mpr ⟨m_51, fun _ h => absurd h List.not_mem_nil⟩⟩
theorem nfX7 : ∀ j, j < 2 → defaultValue (tyX7 j) = vp_V [.null, .int 0] j := by decide +kernel
theorem inX8 : ∀ w ∈ u_ws RX8 TX8 7, w ∈ xb := show ∀ w ∈ ([(Jvm.Cond.lays "ObjectRulesModel$Stop" "java/lang/Throwable" "cause" "Ljava/lang/Throwable;"), (Jvm.Cond.lays "ObjectRulesModel$Stop" "java/lang/Throwable" "stackTrace" "[Ljava/lang/StackTraceElement;"), (Jvm.Cond.lays "ObjectRulesModel$Stop" "java/lang/Throwable" "suppressedExceptions" "Ljava/util/List;"), (Jvm.Cond.lays "ObjectRulesModel$Stop" "java/lang/Throwable" "detailMessage" "Ljava/lang/String;"), (Jvm.Cond.lays "ObjectRulesModel$Stop" "java/lang/Throwable" "backtrace" "Ljava/lang/Object;"), (Jvm.Cond.lays "ObjectRulesModel$Stop" "java/lang/Throwable" "depth" "I"), (Jvm.Cond.laysFinal "ObjectRulesModel$Stop" "ObjectRulesModel$Stop" "code" "I")] : List Cond), w ∈ xb from List.forall_mem_cons.mpr ⟨m_52, List.forall_mem_cons.mpr ⟨m_53, List.forall_mem_cons.mpr ⟨m_54, List.forall_mem_cons.mpr ⟨m_55, List.forall_mem_cons.mpr ⟨m_56, List.forall_mem_cons.mpr ⟨m_57, List.forall_mem_cons.mpr ⟨m_58, fun _ h => absurd h List.not_mem_nil⟩⟩⟩⟩⟩⟩⟩
theorem nfX8 : ∀ j, j < 7 → defaultValue (tyX8 j) = vp_V [.null, .null, .null, .null, .null, .int 0, .int 0] j := by decide +kernel
theorem inX9 : ∀ w ∈ u_ws RX9 TX9 32, w ∈ xb := show ∀ w ∈ ([(Jvm.Cond.lays "ObjectRulesModel" "ObjectRulesModel" "thrown" "I"), (Jvm.Cond.lays "ObjectRulesModel" "ObjectRulesModel" "objects" "I"), (Jvm.Cond.laysFinal "ObjectRulesModel" "ObjectRulesModel" "type" "[I"), (Jvm.Cond.laysFinal "ObjectRulesModel" "ObjectRulesModel" "proto" "[I"), (Jvm.Cond.laysFinal "ObjectRulesModel" "ObjectRulesModel" "target" "[I"), (Jvm.Cond.laysFinal "ObjectRulesModel" "ObjectRulesModel" "handler" "[I"), (Jvm.Cond.laysFinal "ObjectRulesModel" "ObjectRulesModel" "act" "[I"), (Jvm.Cond.laysFinal "ObjectRulesModel" "ObjectRulesModel" "actKey" "[I"), (Jvm.Cond.laysFinal "ObjectRulesModel" "ObjectRulesModel" "actValue" "[I"), (Jvm.Cond.laysFinal "ObjectRulesModel" "ObjectRulesModel" "closed" "[Z"), (Jvm.Cond.laysFinal "ObjectRulesModel" "ObjectRulesModel" "first" "[I"), (Jvm.Cond.laysFinal "ObjectRulesModel" "ObjectRulesModel" "next" "[I"), (Jvm.Cond.laysFinal "ObjectRulesModel" "ObjectRulesModel" "keyOf" "[I"), (Jvm.Cond.laysFinal "ObjectRulesModel" "ObjectRulesModel" "valueOf" "[I"), (Jvm.Cond.laysFinal "ObjectRulesModel" "ObjectRulesModel" "getOf" "[I"), (Jvm.Cond.laysFinal "ObjectRulesModel" "ObjectRulesModel" "setOf" "[I"), (Jvm.Cond.laysFinal "ObjectRulesModel" "ObjectRulesModel" "accessor" "[Z"), (Jvm.Cond.laysFinal "ObjectRulesModel" "ObjectRulesModel" "writable" "[Z"), (Jvm.Cond.laysFinal "ObjectRulesModel" "ObjectRulesModel" "enumerable" "[Z"), (Jvm.Cond.laysFinal "ObjectRulesModel" "ObjectRulesModel" "configurable" "[Z"), (Jvm.Cond.lays "ObjectRulesModel" "ObjectRulesModel" "free" "I"), (Jvm.Cond.lays "ObjectRulesModel" "ObjectRulesModel" "properties" "I"), (Jvm.Cond.laysFinal "ObjectRulesModel" "ObjectRulesModel" "held" "[I"), (Jvm.Cond.lays "ObjectRulesModel" "ObjectRulesModel" "helds" "I"), (Jvm.Cond.laysFinal "ObjectRulesModel" "ObjectRulesModel" "called" "[I"), (Jvm.Cond.lays "ObjectRulesModel" "ObjectRulesModel" "calls" "I"), (Jvm.Cond.lays "ObjectRulesModel" "ObjectRulesModel" "depth" "I"), (Jvm.Cond.lays "ObjectRulesModel" "ObjectRulesModel" "latest" "I"), (Jvm.Cond.laysFinal "ObjectRulesModel" "ObjectRulesModel" "descs" "[LObjectRulesModel$Desc;"), (Jvm.Cond.laysFinal "ObjectRulesModel" "ObjectRulesModel" "lists" "[LObjectRulesModel$Keys;"), (Jvm.Cond.lays "ObjectRulesModel" "ObjectRulesModel" "descTop" "I"), (Jvm.Cond.lays "ObjectRulesModel" "ObjectRulesModel" "listTop" "I")] : List Cond), w ∈ xb from List.forall_mem_cons.mpr ⟨m_59, List.forall_mem_cons.mpr ⟨m_60, List.forall_mem_cons.mpr ⟨m_61, List.forall_mem_cons.mpr ⟨m_62, List.forall_mem_cons.mpr ⟨m_63, List.forall_mem_cons.mpr ⟨m_64, List.forall_mem_cons.mpr ⟨m_65, List.forall_mem_cons.mpr ⟨m_66, List.forall_mem_cons.mpr ⟨m_67, List.forall_mem_cons.mpr ⟨m_68, List.forall_mem_cons.mpr ⟨m_69, List.forall_mem_cons.mpr ⟨m_70, List.forall_mem_cons.mpr ⟨m_71, List.forall_mem_cons.mpr ⟨m_72, List.forall_mem_cons.mpr ⟨m_73, List.forall_mem_cons.mpr ⟨m_74, List.forall_mem_cons.mpr ⟨m_75, List.forall_mem_cons.mpr ⟨m_76, List.forall_mem_cons.mpr ⟨m_77, List.forall_mem_cons.mpr ⟨m_78, List.forall_mem_cons.mpr ⟨m_79, List.forall_mem_cons.mpr ⟨m_80, List.forall_mem_cons.mpr ⟨m_81, List.forall_mem_cons.mpr ⟨m_82, List.forall_mem_cons.mpr ⟨m_83, List.forall_mem_cons.mpr ⟨m_84, List.forall_mem_cons.mpr ⟨m_85, List.forall_mem_cons.mpr ⟨m_86, List.forall_mem_cons.mpr ⟨m_87, List.forall_mem_cons.mpr ⟨m_88, List.forall_mem_cons.mpr ⟨m_89, List.forall_mem_cons.mpr ⟨m_90, fun _ h => absurd h List.not_mem_nil⟩⟩⟩⟩⟩⟩⟩⟩⟩⟩⟩⟩⟩⟩⟩⟩⟩⟩⟩⟩⟩⟩⟩⟩⟩⟩⟩⟩⟩⟩⟩⟩
theorem nfX9 : ∀ j, j < 32 → defaultValue (tyX9 j) = vp_V [.int 0, .int 0, .null, .null, .null, .null, .null, .null, .null, .null, .null, .null, .null, .null, .null, .null, .null, .null, .null, .null, .int 0, .int 0, .null, .int 0, .null, .int 0, .int 0, .int 0, .null, .null, .int 0, .int 0] j := by decide +kernel
theorem x_at70_e : (vx_atS RX5 70 "java/lang/IllegalArgumentException" xNm).filter goodWord = [(Jvm.Cond.initialized "java/lang/Throwable"), (Jvm.Cond.superclass "java/lang/Throwable" "java/lang/Object"), (Jvm.Cond.instanceMethod ({ cls := "java/lang/Throwable", name := "fillInStackTrace", desc := "()Ljava/lang/Throwable;" } : Jvm.MethodName)), (Jvm.Cond.codeSync ({ cls := "java/lang/Throwable", name := "fillInStackTrace", desc := "()Ljava/lang/Throwable;" } : Jvm.MethodName) prog_20_method_18_code (1 : Nat) (Option.some (Jvm.ClassFile.FieldType.object "java/lang/Throwable"))), (Jvm.Cond.instanceMethod ({ cls := "java/lang/Throwable", name := "fillInStackTrace", desc := "(I)Ljava/lang/Throwable;" } : Jvm.MethodName)), (Jvm.Cond.native ({ cls := "java/lang/Throwable", name := "fillInStackTrace", desc := "(I)Ljava/lang/Throwable;" } : Jvm.MethodName)), (Jvm.Cond.instanceMethod ({ cls := "java/lang/Throwable", name := "<init>", desc := "()V" } : Jvm.MethodName)), (Jvm.Cond.code ({ cls := "java/lang/Throwable", name := "<init>", desc := "()V" } : Jvm.MethodName) prog_20_method_1_code (1 : Nat) (Option.none : Option Jvm.ClassFile.FieldType)), (Jvm.Cond.instanceMethod ({ cls := "java/lang/Object", name := "<init>", desc := "()V" } : Jvm.MethodName)), (Jvm.Cond.code ({ cls := "java/lang/Object", name := "<init>", desc := "()V" } : Jvm.MethodName) object_method_1_code (1 : Nat) (Option.none : Option Jvm.ClassFile.FieldType)), (Jvm.Cond.methodLink "java/lang/Throwable" (1 : Nat) ({ cls := "java/lang/Object", name := "<init>", desc := "()V" } : Jvm.MethodName)), (Jvm.Cond.methodLink "java/lang/Throwable" (27 : Nat) ({ cls := "java/lang/Throwable", name := "fillInStackTrace", desc := "()Ljava/lang/Throwable;" } : Jvm.MethodName)), (Jvm.Cond.methodLink "java/lang/Throwable" (202 : Nat) ({ cls := "java/lang/Throwable", name := "fillInStackTrace", desc := "(I)Ljava/lang/Throwable;" } : Jvm.MethodName)), (Jvm.Cond.fieldLink "java/lang/Throwable" (7 : Nat) "java/lang/Throwable" "cause" "Ljava/lang/Throwable;"), (Jvm.Cond.lays "java/lang/Throwable" "java/lang/Throwable" "cause" "Ljava/lang/Throwable;"), (Jvm.Cond.fieldLink "java/lang/Throwable" (17 : Nat) "java/lang/Throwable" "stackTrace" "[Ljava/lang/StackTraceElement;"), (Jvm.Cond.lays "java/lang/Throwable" "java/lang/Throwable" "stackTrace" "[Ljava/lang/StackTraceElement;"), (Jvm.Cond.fieldLink "java/lang/Throwable" (24 : Nat) "java/lang/Throwable" "suppressedExceptions" "Ljava/util/List;"), (Jvm.Cond.lays "java/lang/Throwable" "java/lang/Throwable" "suppressedExceptions" "Ljava/util/List;"), (Jvm.Cond.fieldLink "java/lang/Throwable" (13 : Nat) "java/lang/Throwable" "UNASSIGNED_STACK" "[Ljava/lang/StackTraceElement;"), (Jvm.Cond.fieldLink "java/lang/Throwable" (20 : Nat) "java/lang/Throwable" "SUPPRESSED_SENTINEL" "Ljava/util/List;"), (Jvm.Cond.lays "java/lang/Throwable" "java/lang/Throwable" "detailMessage" "Ljava/lang/String;"), (Jvm.Cond.instanceMethod ({ cls := "java/lang/Throwable", name := "<init>", desc := "(Ljava/lang/String;)V" } : Jvm.MethodName)), (Jvm.Cond.code ({ cls := "java/lang/Throwable", name := "<init>", desc := "(Ljava/lang/String;)V" } : Jvm.MethodName) prog_20_method_2_code (2 : Nat) (Option.none : Option Jvm.ClassFile.FieldType)), (Jvm.Cond.fieldLink "java/lang/Throwable" (31 : Nat) "java/lang/Throwable" "detailMessage" "Ljava/lang/String;"), (Jvm.Cond.lays "java/lang/Throwable" "java/lang/Throwable" "detailMessage" "Ljava/lang/String;"), (Jvm.Cond.instanceMethod ({ cls := "java/lang/IllegalArgumentException", name := "<init>", desc := "(Ljava/lang/String;)V" } : Jvm.MethodName)), (Jvm.Cond.code ({ cls := "java/lang/IllegalArgumentException", name := "<init>", desc := "(Ljava/lang/String;)V" } : Jvm.MethodName) prog_14_method_2_code (2 : Nat) (Option.none : Option Jvm.ClassFile.FieldType)), (Jvm.Cond.methodLink "java/lang/IllegalArgumentException" (7 : Nat) ({ cls := "java/lang/RuntimeException", name := "<init>", desc := "(Ljava/lang/String;)V" } : Jvm.MethodName)), (Jvm.Cond.instanceMethod ({ cls := "java/lang/RuntimeException", name := "<init>", desc := "(Ljava/lang/String;)V" } : Jvm.MethodName)), (Jvm.Cond.instanceMethod ({ cls := "java/lang/RuntimeException", name := "<init>", desc := "(Ljava/lang/String;)V" } : Jvm.MethodName)), (Jvm.Cond.code ({ cls := "java/lang/RuntimeException", name := "<init>", desc := "(Ljava/lang/String;)V" } : Jvm.MethodName) prog_18_method_2_code (2 : Nat) (Option.none : Option Jvm.ClassFile.FieldType)), (Jvm.Cond.methodLink "java/lang/RuntimeException" (7 : Nat) ({ cls := "java/lang/Exception", name := "<init>", desc := "(Ljava/lang/String;)V" } : Jvm.MethodName)), (Jvm.Cond.instanceMethod ({ cls := "java/lang/Exception", name := "<init>", desc := "(Ljava/lang/String;)V" } : Jvm.MethodName)), (Jvm.Cond.instanceMethod ({ cls := "java/lang/Exception", name := "<init>", desc := "(Ljava/lang/String;)V" } : Jvm.MethodName)), (Jvm.Cond.code ({ cls := "java/lang/Exception", name := "<init>", desc := "(Ljava/lang/String;)V" } : Jvm.MethodName) prog_13_method_2_code (2 : Nat) (Option.none : Option Jvm.ClassFile.FieldType)), (Jvm.Cond.methodLink "java/lang/Exception" (7 : Nat) ({ cls := "java/lang/Throwable", name := "<init>", desc := "(Ljava/lang/String;)V" } : Jvm.MethodName)), (Jvm.Cond.instanceMethod ({ cls := "java/lang/Throwable", name := "<init>", desc := "(Ljava/lang/String;)V" } : Jvm.MethodName)), (Jvm.Cond.methodLink "ObjectRules" (70 : Nat) ({ cls := "java/lang/IllegalArgumentException", name := "<init>", desc := "(Ljava/lang/String;)V" } : Jvm.MethodName)), (Jvm.Cond.instantiable "java/lang/IllegalArgumentException" (6 : Nat)), (Jvm.Cond.selects "java/lang/IllegalArgumentException" ({ cls := "java/lang/Throwable", name := "fillInStackTrace", desc := "(I)Ljava/lang/Throwable;" } : Jvm.MethodName) ({ cls := "java/lang/Throwable", name := "fillInStackTrace", desc := "(I)Ljava/lang/Throwable;" } : Jvm.MethodName)), (Jvm.Cond.selects "java/lang/IllegalArgumentException" ({ cls := "java/lang/Throwable", name := "fillInStackTrace", desc := "()Ljava/lang/Throwable;" } : Jvm.MethodName) ({ cls := "java/lang/Throwable", name := "fillInStackTrace", desc := "()Ljava/lang/Throwable;" } : Jvm.MethodName)), (Jvm.Cond.lays "java/lang/IllegalArgumentException" "java/lang/Throwable" "cause" "Ljava/lang/Throwable;"), (Jvm.Cond.lays "java/lang/IllegalArgumentException" "java/lang/Throwable" "stackTrace" "[Ljava/lang/StackTraceElement;"), (Jvm.Cond.lays "java/lang/IllegalArgumentException" "java/lang/Throwable" "suppressedExceptions" "Ljava/util/List;"), (Jvm.Cond.lays "java/lang/IllegalArgumentException" "java/lang/Throwable" "detailMessage" "Ljava/lang/String;"), (Jvm.Cond.fieldLink "java/lang/Throwable" (198 : Nat) "java/lang/Throwable" "backtrace" "Ljava/lang/Object;"), (Jvm.Cond.lays "java/lang/Throwable" "java/lang/Throwable" "backtrace" "Ljava/lang/Object;"), (Jvm.Cond.lays "java/lang/IllegalArgumentException" "java/lang/Throwable" "backtrace" "Ljava/lang/Object;")] := by decide +kernel
theorem x_at70 : ∀ w ∈ (vx_atS RX5 70 "java/lang/IllegalArgumentException" xNm).filter goodWord, w ∈ xb := by rw [x_at70_e]; exact List.forall_mem_cons.mpr ⟨m_91, List.forall_mem_cons.mpr ⟨m_92, List.forall_mem_cons.mpr ⟨m_93, List.forall_mem_cons.mpr ⟨m_94, List.forall_mem_cons.mpr ⟨m_95, List.forall_mem_cons.mpr ⟨m_96, List.forall_mem_cons.mpr ⟨m_97, List.forall_mem_cons.mpr ⟨m_98, List.forall_mem_cons.mpr ⟨m_99, List.forall_mem_cons.mpr ⟨m_100, List.forall_mem_cons.mpr ⟨m_101, List.forall_mem_cons.mpr ⟨m_102, List.forall_mem_cons.mpr ⟨m_103, List.forall_mem_cons.mpr ⟨m_104, List.forall_mem_cons.mpr ⟨m_105, List.forall_mem_cons.mpr ⟨m_106, List.forall_mem_cons.mpr ⟨m_107, List.forall_mem_cons.mpr ⟨m_108, List.forall_mem_cons.mpr ⟨m_109, List.forall_mem_cons.mpr ⟨m_110, List.forall_mem_cons.mpr ⟨m_111, List.forall_mem_cons.mpr ⟨m_112, List.forall_mem_cons.mpr ⟨m_113, List.forall_mem_cons.mpr ⟨m_114, List.forall_mem_cons.mpr ⟨m_115, List.forall_mem_cons.mpr ⟨m_112, List.forall_mem_cons.mpr ⟨m_116, List.forall_mem_cons.mpr ⟨m_117, List.forall_mem_cons.mpr ⟨m_118, List.forall_mem_cons.mpr ⟨m_119, List.forall_mem_cons.mpr ⟨m_119, List.forall_mem_cons.mpr ⟨m_120, List.forall_mem_cons.mpr ⟨m_121, List.forall_mem_cons.mpr ⟨m_122, List.forall_mem_cons.mpr ⟨m_122, List.forall_mem_cons.mpr ⟨m_123, List.forall_mem_cons.mpr ⟨m_124, List.forall_mem_cons.mpr ⟨m_113, List.forall_mem_cons.mpr ⟨m_125, List.forall_mem_cons.mpr ⟨m_126, List.forall_mem_cons.mpr ⟨m_127, List.forall_mem_cons.mpr ⟨m_128, List.forall_mem_cons.mpr ⟨m_129, List.forall_mem_cons.mpr ⟨m_130, List.forall_mem_cons.mpr ⟨m_131, List.forall_mem_cons.mpr ⟨m_132, List.forall_mem_cons.mpr ⟨m_133, List.forall_mem_cons.mpr ⟨m_134, List.forall_mem_cons.mpr ⟨m_135, fun _ h => absurd h List.not_mem_nil⟩⟩⟩⟩⟩⟩⟩⟩⟩⟩⟩⟩⟩⟩⟩⟩⟩⟩⟩⟩⟩⟩⟩⟩⟩⟩⟩⟩⟩⟩⟩⟩⟩⟩⟩⟩⟩⟩⟩⟩⟩⟩⟩⟩⟩⟩⟩⟩⟩
theorem x_at70_n : ∀ w ∈ (vx_atS RX5 70 "java/lang/IllegalArgumentException" xNm).filter (fun w => !goodWord w), w ∈ xn := by decide +kernel
theorem x_at70_o : ∀ w ∈ Cond.classLink RX5 66 "java/lang/IllegalArgumentException" :: Cond.initialized "java/lang/IllegalArgumentException" :: vx_atS RX5 70 "java/lang/IllegalArgumentException" xNm, vx_ot w = true := by decide +kernel
theorem x_at179_e : (vx_atS RX5 179 "java/lang/IndexOutOfBoundsException" xNm).filter goodWord = [(Jvm.Cond.initialized "java/lang/Throwable"), (Jvm.Cond.superclass "java/lang/Throwable" "java/lang/Object"), (Jvm.Cond.instanceMethod ({ cls := "java/lang/Throwable", name := "fillInStackTrace", desc := "()Ljava/lang/Throwable;" } : Jvm.MethodName)), (Jvm.Cond.codeSync ({ cls := "java/lang/Throwable", name := "fillInStackTrace", desc := "()Ljava/lang/Throwable;" } : Jvm.MethodName) prog_20_method_18_code (1 : Nat) (Option.some (Jvm.ClassFile.FieldType.object "java/lang/Throwable"))), (Jvm.Cond.instanceMethod ({ cls := "java/lang/Throwable", name := "fillInStackTrace", desc := "(I)Ljava/lang/Throwable;" } : Jvm.MethodName)), (Jvm.Cond.native ({ cls := "java/lang/Throwable", name := "fillInStackTrace", desc := "(I)Ljava/lang/Throwable;" } : Jvm.MethodName)), (Jvm.Cond.instanceMethod ({ cls := "java/lang/Throwable", name := "<init>", desc := "()V" } : Jvm.MethodName)), (Jvm.Cond.code ({ cls := "java/lang/Throwable", name := "<init>", desc := "()V" } : Jvm.MethodName) prog_20_method_1_code (1 : Nat) (Option.none : Option Jvm.ClassFile.FieldType)), (Jvm.Cond.instanceMethod ({ cls := "java/lang/Object", name := "<init>", desc := "()V" } : Jvm.MethodName)), (Jvm.Cond.code ({ cls := "java/lang/Object", name := "<init>", desc := "()V" } : Jvm.MethodName) object_method_1_code (1 : Nat) (Option.none : Option Jvm.ClassFile.FieldType)), (Jvm.Cond.methodLink "java/lang/Throwable" (1 : Nat) ({ cls := "java/lang/Object", name := "<init>", desc := "()V" } : Jvm.MethodName)), (Jvm.Cond.methodLink "java/lang/Throwable" (27 : Nat) ({ cls := "java/lang/Throwable", name := "fillInStackTrace", desc := "()Ljava/lang/Throwable;" } : Jvm.MethodName)), (Jvm.Cond.methodLink "java/lang/Throwable" (202 : Nat) ({ cls := "java/lang/Throwable", name := "fillInStackTrace", desc := "(I)Ljava/lang/Throwable;" } : Jvm.MethodName)), (Jvm.Cond.fieldLink "java/lang/Throwable" (7 : Nat) "java/lang/Throwable" "cause" "Ljava/lang/Throwable;"), (Jvm.Cond.lays "java/lang/Throwable" "java/lang/Throwable" "cause" "Ljava/lang/Throwable;"), (Jvm.Cond.fieldLink "java/lang/Throwable" (17 : Nat) "java/lang/Throwable" "stackTrace" "[Ljava/lang/StackTraceElement;"), (Jvm.Cond.lays "java/lang/Throwable" "java/lang/Throwable" "stackTrace" "[Ljava/lang/StackTraceElement;"), (Jvm.Cond.fieldLink "java/lang/Throwable" (24 : Nat) "java/lang/Throwable" "suppressedExceptions" "Ljava/util/List;"), (Jvm.Cond.lays "java/lang/Throwable" "java/lang/Throwable" "suppressedExceptions" "Ljava/util/List;"), (Jvm.Cond.fieldLink "java/lang/Throwable" (13 : Nat) "java/lang/Throwable" "UNASSIGNED_STACK" "[Ljava/lang/StackTraceElement;"), (Jvm.Cond.fieldLink "java/lang/Throwable" (20 : Nat) "java/lang/Throwable" "SUPPRESSED_SENTINEL" "Ljava/util/List;"), (Jvm.Cond.lays "java/lang/Throwable" "java/lang/Throwable" "detailMessage" "Ljava/lang/String;"), (Jvm.Cond.instanceMethod ({ cls := "java/lang/Throwable", name := "<init>", desc := "(Ljava/lang/String;)V" } : Jvm.MethodName)), (Jvm.Cond.code ({ cls := "java/lang/Throwable", name := "<init>", desc := "(Ljava/lang/String;)V" } : Jvm.MethodName) prog_20_method_2_code (2 : Nat) (Option.none : Option Jvm.ClassFile.FieldType)), (Jvm.Cond.fieldLink "java/lang/Throwable" (31 : Nat) "java/lang/Throwable" "detailMessage" "Ljava/lang/String;"), (Jvm.Cond.lays "java/lang/Throwable" "java/lang/Throwable" "detailMessage" "Ljava/lang/String;"), (Jvm.Cond.instanceMethod ({ cls := "java/lang/IndexOutOfBoundsException", name := "<init>", desc := "(Ljava/lang/String;)V" } : Jvm.MethodName)), (Jvm.Cond.code ({ cls := "java/lang/IndexOutOfBoundsException", name := "<init>", desc := "(Ljava/lang/String;)V" } : Jvm.MethodName) prog_16_method_2_code (2 : Nat) (Option.none : Option Jvm.ClassFile.FieldType)), (Jvm.Cond.methodLink "java/lang/IndexOutOfBoundsException" (7 : Nat) ({ cls := "java/lang/RuntimeException", name := "<init>", desc := "(Ljava/lang/String;)V" } : Jvm.MethodName)), (Jvm.Cond.instanceMethod ({ cls := "java/lang/RuntimeException", name := "<init>", desc := "(Ljava/lang/String;)V" } : Jvm.MethodName)), (Jvm.Cond.instanceMethod ({ cls := "java/lang/RuntimeException", name := "<init>", desc := "(Ljava/lang/String;)V" } : Jvm.MethodName)), (Jvm.Cond.code ({ cls := "java/lang/RuntimeException", name := "<init>", desc := "(Ljava/lang/String;)V" } : Jvm.MethodName) prog_18_method_2_code (2 : Nat) (Option.none : Option Jvm.ClassFile.FieldType)), (Jvm.Cond.methodLink "java/lang/RuntimeException" (7 : Nat) ({ cls := "java/lang/Exception", name := "<init>", desc := "(Ljava/lang/String;)V" } : Jvm.MethodName)), (Jvm.Cond.instanceMethod ({ cls := "java/lang/Exception", name := "<init>", desc := "(Ljava/lang/String;)V" } : Jvm.MethodName)), (Jvm.Cond.instanceMethod ({ cls := "java/lang/Exception", name := "<init>", desc := "(Ljava/lang/String;)V" } : Jvm.MethodName)), (Jvm.Cond.code ({ cls := "java/lang/Exception", name := "<init>", desc := "(Ljava/lang/String;)V" } : Jvm.MethodName) prog_13_method_2_code (2 : Nat) (Option.none : Option Jvm.ClassFile.FieldType)), (Jvm.Cond.methodLink "java/lang/Exception" (7 : Nat) ({ cls := "java/lang/Throwable", name := "<init>", desc := "(Ljava/lang/String;)V" } : Jvm.MethodName)), (Jvm.Cond.instanceMethod ({ cls := "java/lang/Throwable", name := "<init>", desc := "(Ljava/lang/String;)V" } : Jvm.MethodName)), (Jvm.Cond.methodLink "ObjectRules" (179 : Nat) ({ cls := "java/lang/IndexOutOfBoundsException", name := "<init>", desc := "(Ljava/lang/String;)V" } : Jvm.MethodName)), (Jvm.Cond.instantiable "java/lang/IndexOutOfBoundsException" (6 : Nat)), (Jvm.Cond.selects "java/lang/IndexOutOfBoundsException" ({ cls := "java/lang/Throwable", name := "fillInStackTrace", desc := "(I)Ljava/lang/Throwable;" } : Jvm.MethodName) ({ cls := "java/lang/Throwable", name := "fillInStackTrace", desc := "(I)Ljava/lang/Throwable;" } : Jvm.MethodName)), (Jvm.Cond.selects "java/lang/IndexOutOfBoundsException" ({ cls := "java/lang/Throwable", name := "fillInStackTrace", desc := "()Ljava/lang/Throwable;" } : Jvm.MethodName) ({ cls := "java/lang/Throwable", name := "fillInStackTrace", desc := "()Ljava/lang/Throwable;" } : Jvm.MethodName)), (Jvm.Cond.lays "java/lang/IndexOutOfBoundsException" "java/lang/Throwable" "cause" "Ljava/lang/Throwable;"), (Jvm.Cond.lays "java/lang/IndexOutOfBoundsException" "java/lang/Throwable" "stackTrace" "[Ljava/lang/StackTraceElement;"), (Jvm.Cond.lays "java/lang/IndexOutOfBoundsException" "java/lang/Throwable" "suppressedExceptions" "Ljava/util/List;"), (Jvm.Cond.lays "java/lang/IndexOutOfBoundsException" "java/lang/Throwable" "detailMessage" "Ljava/lang/String;"), (Jvm.Cond.fieldLink "java/lang/Throwable" (198 : Nat) "java/lang/Throwable" "backtrace" "Ljava/lang/Object;"), (Jvm.Cond.lays "java/lang/Throwable" "java/lang/Throwable" "backtrace" "Ljava/lang/Object;"), (Jvm.Cond.lays "java/lang/IndexOutOfBoundsException" "java/lang/Throwable" "backtrace" "Ljava/lang/Object;")] := by decide +kernel
theorem x_at179 : ∀ w ∈ (vx_atS RX5 179 "java/lang/IndexOutOfBoundsException" xNm).filter goodWord, w ∈ xb := by rw [x_at179_e]; exact List.forall_mem_cons.mpr ⟨m_91, List.forall_mem_cons.mpr ⟨m_92, List.forall_mem_cons.mpr ⟨m_93, List.forall_mem_cons.mpr ⟨m_94, List.forall_mem_cons.mpr ⟨m_95, List.forall_mem_cons.mpr ⟨m_96, List.forall_mem_cons.mpr ⟨m_97, List.forall_mem_cons.mpr ⟨m_98, List.forall_mem_cons.mpr ⟨m_99, List.forall_mem_cons.mpr ⟨m_100, List.forall_mem_cons.mpr ⟨m_101, List.forall_mem_cons.mpr ⟨m_102, List.forall_mem_cons.mpr ⟨m_103, List.forall_mem_cons.mpr ⟨m_104, List.forall_mem_cons.mpr ⟨m_105, List.forall_mem_cons.mpr ⟨m_106, List.forall_mem_cons.mpr ⟨m_107, List.forall_mem_cons.mpr ⟨m_108, List.forall_mem_cons.mpr ⟨m_109, List.forall_mem_cons.mpr ⟨m_110, List.forall_mem_cons.mpr ⟨m_111, List.forall_mem_cons.mpr ⟨m_112, List.forall_mem_cons.mpr ⟨m_113, List.forall_mem_cons.mpr ⟨m_114, List.forall_mem_cons.mpr ⟨m_115, List.forall_mem_cons.mpr ⟨m_112, List.forall_mem_cons.mpr ⟨m_136, List.forall_mem_cons.mpr ⟨m_137, List.forall_mem_cons.mpr ⟨m_138, List.forall_mem_cons.mpr ⟨m_119, List.forall_mem_cons.mpr ⟨m_119, List.forall_mem_cons.mpr ⟨m_120, List.forall_mem_cons.mpr ⟨m_121, List.forall_mem_cons.mpr ⟨m_122, List.forall_mem_cons.mpr ⟨m_122, List.forall_mem_cons.mpr ⟨m_123, List.forall_mem_cons.mpr ⟨m_124, List.forall_mem_cons.mpr ⟨m_113, List.forall_mem_cons.mpr ⟨m_139, List.forall_mem_cons.mpr ⟨m_140, List.forall_mem_cons.mpr ⟨m_141, List.forall_mem_cons.mpr ⟨m_142, List.forall_mem_cons.mpr ⟨m_143, List.forall_mem_cons.mpr ⟨m_144, List.forall_mem_cons.mpr ⟨m_145, List.forall_mem_cons.mpr ⟨m_146, List.forall_mem_cons.mpr ⟨m_133, List.forall_mem_cons.mpr ⟨m_134, List.forall_mem_cons.mpr ⟨m_147, fun _ h => absurd h List.not_mem_nil⟩⟩⟩⟩⟩⟩⟩⟩⟩⟩⟩⟩⟩⟩⟩⟩⟩⟩⟩⟩⟩⟩⟩⟩⟩⟩⟩⟩⟩⟩⟩⟩⟩⟩⟩⟩⟩⟩⟩⟩⟩⟩⟩⟩⟩⟩⟩⟩⟩
theorem x_at179_n : ∀ w ∈ (vx_atS RX5 179 "java/lang/IndexOutOfBoundsException" xNm).filter (fun w => !goodWord w), w ∈ xn := by decide +kernel
theorem x_at179_o : ∀ w ∈ Cond.classLink RX5 175 "java/lang/IndexOutOfBoundsException" :: Cond.initialized "java/lang/IndexOutOfBoundsException" :: vx_atS RX5 179 "java/lang/IndexOutOfBoundsException" xNm, vx_ot w = true := by decide +kernel
section XU
variable {p : Program} {l : Launch} {e : Env} {R : Room} {s : State} {m : MethodId} {args : Array Value} {below : List Frame} {meth : Method} {c : Code} {H : Heap} {locs : List Loc} {cells slots : Nat}
variable {free : Addr → Prop} {Qc : Array Value → State → Outcome → State → Prop} {XC : Addr → String → State → State → Prop}
theorem x_thrI {cc : ByteArray} {pc : Nat} {ls : Array Slot} {rest : List Value} {text : String} {is mc ms b0 : Nat} {A : Nat → Prop} (hexec : p.tables.exec = Jvm.exec) (hb : c.code = cc) (hl : l.stackTraces = false) (hown : s.vm.findClass RX5 = some m.cls) (ht : ∀ w ∈ xb, w.before args s = true) (hE : xE b0 s) (hAb : ∀ q, A q → b0 ≤ q) (hstr : (is, text) ∈ xs)
    (hS : va_S A s.heap H locs) (hsize : ls.size = c.maxLocals) (d0 : decode cc pc = .ok (.new 66, 3)) (d3 : decode cc (pc + 3) = .ok (.dup, 1)) (d4 : decode cc (pc + 4) = .ok (.ldc is, 2)) (d6 : decode cc (pc + 6) = .ok (.invokespecial 70, 3)) (d9 : decode cc (pc + 9) = .ok (.athrow, 1))
    (htab : ∀ x ∈ c.exceptionTable.toList, False) (hRf : 5 < R.frames) (hRl : (rest.map fun v => v.category).sum + 82 ≤ R.locals) (hRc : cells + 1 ≤ R.cells) (hRs : slots + 6 ≤ R.slots) (hlocks : meth.locks = false)
    (hx : ∀ t : State, s.vm.Alike t.vm → H.size ≤ t.heap.size → (∀ q : Nat, q < H.size → t.heap[q]? = H[q]?) → XC H.size "java/lang/IllegalArgumentException" s t) (hf : ∀ z ∈ locs, free z.base) (hc : cells + 1 ≤ mc) (hs : slots + 6 ≤ ms) :
    W p l e R s m args below meth c H locs cells slots (vx_MQ below Qc XC args s mc ms free) (F0 m pc ls rest) := by
  obtain ⟨sa, hsa⟩ := hE.2.2.1 _ hstr
  exact vx_throwS (names := xNm) (A := A) hexec hb hl hown (by decide +kernel) (by decide +kernel) (ht _ m_148) (ht _ m_149) hsa (vx_hat (fun w h => ht w (x_at70 w h)) x_at70_n (fun w h => hE.use h)) x_at70_o (hE.2.2.2.1.narrow hAb) (hE.2.2.2.2.1.narrow hAb) hS hsize d0 d3 d4 d6 d9 (fun x hx => (htab x hx).elim) hRf hRl hRc hRs hlocks hx hf hc hs
theorem x_thrO {cc : ByteArray} {pc : Nat} {ls : Array Slot} {rest : List Value} {text : String} {is mc ms b0 : Nat} {A : Nat → Prop} (hexec : p.tables.exec = Jvm.exec) (hb : c.code = cc) (hl : l.stackTraces = false) (hown : s.vm.findClass RX5 = some m.cls) (ht : ∀ w ∈ xb, w.before args s = true) (hE : xE b0 s) (hAb : ∀ q, A q → b0 ≤ q) (hstr : (is, text) ∈ xs)
    (hS : va_S A s.heap H locs) (hsize : ls.size = c.maxLocals) (d0 : decode cc pc = .ok (.new 175, 3)) (d3 : decode cc (pc + 3) = .ok (.dup, 1)) (d4 : decode cc (pc + 4) = .ok (.ldc is, 2)) (d6 : decode cc (pc + 6) = .ok (.invokespecial 179, 3)) (d9 : decode cc (pc + 9) = .ok (.athrow, 1))
    (htab : ∀ x ∈ c.exceptionTable.toList, False) (hRf : 5 < R.frames) (hRl : (rest.map fun v => v.category).sum + 82 ≤ R.locals) (hRc : cells + 1 ≤ R.cells) (hRs : slots + 6 ≤ R.slots) (hlocks : meth.locks = false)
    (hx : ∀ t : State, s.vm.Alike t.vm → H.size ≤ t.heap.size → (∀ q : Nat, q < H.size → t.heap[q]? = H[q]?) → XC H.size "java/lang/IndexOutOfBoundsException" s t) (hf : ∀ z ∈ locs, free z.base) (hc : cells + 1 ≤ mc) (hs : slots + 6 ≤ ms) :
    W p l e R s m args below meth c H locs cells slots (vx_MQ below Qc XC args s mc ms free) (F0 m pc ls rest) := by
  obtain ⟨sa, hsa⟩ := hE.2.2.1 _ hstr
  exact vx_throwS (names := xNm) (A := A) hexec hb hl hown (by decide +kernel) (by decide +kernel) (ht _ m_150) (ht _ m_151) hsa (vx_hat (fun w h => ht w (x_at179 w h)) x_at179_n (fun w h => hE.use h)) x_at179_o (hE.2.2.2.1.narrow hAb) (hE.2.2.2.2.1.narrow hAb) hS hsize d0 d3 d4 d6 d9 (fun x hx => (htab x hx).elim) hRf hRl hRc hRs hlocks hx hf hc hs
end XU
theorem x_F {A : Nat → Prop} {s t : State} {H : Heap} {locs : List Loc} (hS : va_S A s.heap H locs) (hz : H.size ≤ t.heap.size) (hq : ∀ q : Nat, q < H.size → t.heap[q]? = H[q]?) : va_F A s t := ⟨Nat.le_trans hS.1 hz, fun q h1 h2 => (hq q (Nat.lt_of_lt_of_le h1 hS.1)).trans (hS.2.1 q h1 h2)⟩
def yR4 : MethodName := ⟨"java/lang/RuntimeException", "<init>", "(Ljava/lang/String;Ljava/lang/Throwable;ZZ)V"⟩
def yE4 : MethodName := ⟨"java/lang/Exception", "<init>", "(Ljava/lang/String;Ljava/lang/Throwable;ZZ)V"⟩
def yT4 : MethodName := ⟨"java/lang/Throwable", "<init>", "(Ljava/lang/String;Ljava/lang/Throwable;ZZ)V"⟩
theorem x_ge {x : Int32} (h : ¬ x < 0) : 0 ≤ x := Int32.not_lt.mp h
theorem x_n0 : Int32.toNatClampNeg 0 = 0 := by decide
theorem x_u0 {f : Nat → Int32} {x : Int32} : upd f (Int32.toNatClampNeg 0) x 0 = x := by rw [x_n0]; exact pk_us
theorem x_at0 {f : Nat → Int32} {x : Int32} (h : f 0 = x) : f (Int32.toNatClampNeg 0) = x := by rw [x_n0]; exact h
theorem x_out4 {x : Int32} (h0 : ¬ x = 0) (h1 : ¬ x = 1) (h2 : ¬ x = 2) (h3 : ¬ x = 3) : x.toInt < 0 ∨ 3 < x.toInt := by
  have a0 := lv_neT (a := 0) h0 (by decide)
  have a1 := lv_neT (a := 1) h1 (by decide)
  have a2 := lv_neT (a := 2) h2 (by decide)
  have a3 := lv_neT (a := 3) h3 (by decide)
  omega
section XI
variable {p : Program} {l : Launch} {e : Env} {R : Room} {s : State} {m : MethodId} {args : Array Value} {below : List Frame} {meth : Method} {c : Code} {Q : State → Prop} {pc : Nat}
/-- a loop of N turns -/
theorem x_iter (N : Nat) (cf sf : Nat → Nat) (I : Nat → Heap → List Loc → Array Slot → Prop)
    (hs : ∀ (i : Nat) (H : Heap) (locs : List Loc) (ls : Array Slot), i < N → I i H locs ls → (∀ (H' : Heap) (locs' : List Loc) (ls' : Array Slot), I (i + 1) H' locs' ls' → W p l e R s m args below meth c H' locs' (cf (i + 1)) (sf (i + 1)) Q (F0 m pc ls' [])) → W p l e R s m args below meth c H locs (cf i) (sf i) Q (F0 m pc ls []))
    (hx : ∀ (H : Heap) (locs : List Loc) (ls : Array Slot), I N H locs ls → W p l e R s m args below meth c H locs (cf N) (sf N) Q (F0 m pc ls [])) {H : Heap} {locs : List Loc} {ls : Array Slot} (h0 : I 0 H locs ls) : W p l e R s m args below meth c H locs (cf 0) (sf 0) Q (F0 m pc ls []) := by
  have key : ∀ (k i : Nat) (H : Heap) (locs : List Loc) (ls : Array Slot), i + k = N → I i H locs ls → W p l e R s m args below meth c H locs (cf i) (sf i) Q (F0 m pc ls []) := by
    intro k
    induction k with
    | zero => intro i H locs ls hk hI; obtain rfl : i = N := by omega
              exact hx H locs ls hI
    | succ k ih => intro i H locs ls hk hI; exact hs i H locs ls (by omega) hI (fun H' locs' ls' h' => ih (i + 1) H' locs' ls' (by omega) h')
  exact key N 0 H locs ls (Nat.zero_add N) h0
end XI
theorem x_lt5999 {i : Nat} (h : i < 5999) : ¬ (5999 : Int32) ≤ nI i := nI_ge (b := 5999) h (by decide)
theorem x_le5999 : (5999 : Int32) ≤ nI 5999 := by decide
theorem x_lt6000 {i : Nat} (h : i < 6000) : ¬ (6000 : Int32) ≤ nI i := nI_ge (b := 6000) h (by decide)
theorem x_le6000 : (6000 : Int32) ≤ nI 6000 := by decide
theorem x_lt205 {i : Nat} (h : i < 205) : ¬ (205 : Int32) ≤ nI i := nI_ge (b := 205) h (by decide)
theorem x_le205 : (205 : Int32) ≤ nI 205 := by decide
end
section
theorem dX0_init_0 : decode cX0_init 0 = .ok (.aload_n 0, 1) := by decide +kernel
theorem dX0_init_1 : decode cX0_init 1 = .ok (.invokespecial 3, 3) := by decide +kernel
theorem dX0_init_4 : decode cX0_init 4 = .ok (.return_, 1) := by decide +kernel
theorem dX1_init_0 : decode cX1_init 0 = .ok (.aload_n 0, 1) := by decide +kernel
theorem dX1_init_1 : decode cX1_init 1 = .ok (.invokespecial 3, 3) := by decide +kernel
theorem dX1_init_11 : decode cX1_init 11 = .ok (.putfield 13, 3) := by decide +kernel
theorem dX1_init_14 : decode cX1_init 14 = .ok (.iconst 0, 1) := by decide +kernel
theorem dX1_init_15 : decode cX1_init 15 = .ok (.istore_n 1, 1) := by decide +kernel
theorem dX1_init_16 : decode cX1_init 16 = .ok (.iload_n 1, 1) := by decide +kernel
theorem dX1_init_17 : decode cX1_init 17 = .ok (.aload_n 0, 1) := by decide +kernel
theorem dX1_init_18 : decode cX1_init 18 = .ok (.getfield 13, 3) := by decide +kernel
theorem dX1_init_21 : decode cX1_init 21 = .ok (.arraylength, 1) := by decide +kernel
theorem dX1_init_22 : decode cX1_init 22 = .ok (.if_icmp .ge 22, 3) := by decide +kernel
theorem dX1_init_25 : decode cX1_init 25 = .ok (.aload_n 0, 1) := by decide +kernel
theorem dX1_init_26 : decode cX1_init 26 = .ok (.getfield 13, 3) := by decide +kernel
theorem dX1_init_29 : decode cX1_init 29 = .ok (.iload_n 1, 1) := by decide +kernel
theorem dX1_init_30 : decode cX1_init 30 = .ok (.new 11, 3) := by decide +kernel
theorem dX1_init_33 : decode cX1_init 33 = .ok (.dup, 1) := by decide +kernel
theorem dX1_init_34 : decode cX1_init 34 = .ok (.invokespecial 17, 3) := by decide +kernel
theorem dX1_init_37 : decode cX1_init 37 = .ok (.aastore, 1) := by decide +kernel
theorem dX1_init_38 : decode cX1_init 38 = .ok (.iinc 1 1, 3) := by decide +kernel
theorem dX1_init_4 : decode cX1_init 4 = .ok (.aload_n 0, 1) := by decide +kernel
theorem dX1_init_41 : decode cX1_init 41 = .ok (.goto (-25), 3) := by decide +kernel
theorem dX1_init_44 : decode cX1_init 44 = .ok (.return_, 1) := by decide +kernel
theorem dX1_init_5 : decode cX1_init 5 = .ok (.sipush 205, 3) := by decide +kernel
theorem dX1_init_8 : decode cX1_init 8 = .ok (.anewarray 11, 3) := by decide +kernel
theorem dX2_cutTo_0 : decode cX2_cutTo 0 = .ok (.iload_n 1, 1) := by decide +kernel
theorem dX2_cutTo_1 : decode cX2_cutTo 1 = .ok (.ifCond .lt 16, 3) := by decide +kernel
theorem dX2_cutTo_12 : decode cX2_cutTo 12 = .ok (.aload_n 0, 1) := by decide +kernel
theorem dX2_cutTo_13 : decode cX2_cutTo 13 = .ok (.iload_n 1, 1) := by decide +kernel
theorem dX2_cutTo_14 : decode cX2_cutTo 14 = .ok (.putfield 18, 3) := by decide +kernel
theorem dX2_cutTo_17 : decode cX2_cutTo 17 = .ok (.return_, 1) := by decide +kernel
theorem dX2_cutTo_4 : decode cX2_cutTo 4 = .ok (.iload_n 1, 1) := by decide +kernel
theorem dX2_cutTo_5 : decode cX2_cutTo 5 = .ok (.aload_n 0, 1) := by decide +kernel
theorem dX2_cutTo_6 : decode cX2_cutTo 6 = .ok (.getfield 18, 3) := by decide +kernel
theorem dX2_cutTo_9 : decode cX2_cutTo 9 = .ok (.if_icmp .gt 8, 3) := by decide +kernel
theorem dX2_init_0 : decode cX2_init 0 = .ok (.aload_n 0, 1) := by decide +kernel
theorem dX2_init_1 : decode cX2_init 1 = .ok (.invokespecial 3, 3) := by decide +kernel
theorem dX2_init_10 : decode cX2_init 10 = .ok (.putfield 11, 3) := by decide +kernel
theorem dX2_init_13 : decode cX2_init 13 = .ok (.aload_n 0, 1) := by decide +kernel
theorem dX2_init_14 : decode cX2_init 14 = .ok (.sipush 250, 3) := by decide +kernel
theorem dX2_init_17 : decode cX2_init 17 = .ok (.newarray .int, 2) := by decide +kernel
theorem dX2_init_19 : decode cX2_init 19 = .ok (.putfield 15, 3) := by decide +kernel
theorem dX2_init_22 : decode cX2_init 22 = .ok (.return_, 1) := by decide +kernel
theorem dX2_init_4 : decode cX2_init 4 = .ok (.aload_n 0, 1) := by decide +kernel
theorem dX2_init_5 : decode cX2_init 5 = .ok (.sipush 10291, 3) := by decide +kernel
theorem dX2_init_8 : decode cX2_init 8 = .ok (.newarray .int, 2) := by decide +kernel
theorem dX3_addArray_0 : decode cX3_addArray 0 = .ok (.aload_n 0, 1) := by decide +kernel
theorem dX3_addArray_1 : decode cX3_addArray 1 = .ok (.getfield 57, 3) := by decide +kernel
theorem dX3_addArray_18 : decode cX3_addArray 18 = .ok (.aload_n 0, 1) := by decide +kernel
theorem dX3_addArray_19 : decode cX3_addArray 19 = .ok (.iconst 2, 1) := by decide +kernel
theorem dX3_addArray_20 : decode cX3_addArray 20 = .ok (.iconst (-1), 1) := by decide +kernel
theorem dX3_addArray_21 : decode cX3_addArray 21 = .ok (.invokevirtual 53, 3) := by decide +kernel
theorem dX3_addArray_24 : decode cX3_addArray 24 = .ok (.istore_n 2, 1) := by decide +kernel
theorem dX3_addArray_25 : decode cX3_addArray 25 = .ok (.aload_n 0, 1) := by decide +kernel
theorem dX3_addArray_26 : decode cX3_addArray 26 = .ok (.iload_n 2, 1) := by decide +kernel
theorem dX3_addArray_27 : decode cX3_addArray 27 = .ok (.bipush 100, 2) := by decide +kernel
theorem dX3_addArray_29 : decode cX3_addArray 29 = .ok (.invokevirtual 67, 3) := by decide +kernel
theorem dX3_addArray_32 : decode cX3_addArray 32 = .ok (.istore_n 3, 1) := by decide +kernel
theorem dX3_addArray_33 : decode cX3_addArray 33 = .ok (.aload_n 0, 1) := by decide +kernel
theorem dX3_addArray_34 : decode cX3_addArray 34 = .ok (.iload_n 3, 1) := by decide +kernel
theorem dX3_addArray_35 : decode cX3_addArray 35 = .ok (.iload_n 1, 1) := by decide +kernel
theorem dX3_addArray_36 : decode cX3_addArray 36 = .ok (.invokevirtual 70, 3) := by decide +kernel
theorem dX3_addArray_39 : decode cX3_addArray 39 = .ok (.aload_n 0, 1) := by decide +kernel
theorem dX3_addArray_4 : decode cX3_addArray 4 = .ok (.iconst (-1), 1) := by decide +kernel
theorem dX3_addArray_40 : decode cX3_addArray 40 = .ok (.iload_n 3, 1) := by decide +kernel
theorem dX3_addArray_41 : decode cX3_addArray 41 = .ok (.iconst 2, 1) := by decide +kernel
theorem dX3_addArray_42 : decode cX3_addArray 42 = .ok (.invokevirtual 74, 3) := by decide +kernel
theorem dX3_addArray_45 : decode cX3_addArray 45 = .ok (.iload_n 2, 1) := by decide +kernel
theorem dX3_addArray_46 : decode cX3_addArray 46 = .ok (.ireturn, 1) := by decide +kernel
theorem dX3_addArray_5 : decode cX3_addArray 5 = .ok (.if_icmp .ne 13, 3) := by decide +kernel
theorem dX3_addFunction_0 : decode cX3_addFunction 0 = .ok (.aload_n 0, 1) := by decide +kernel
theorem dX3_addFunction_1 : decode cX3_addFunction 1 = .ok (.iconst 3, 1) := by decide +kernel
theorem dX3_addFunction_11 : decode cX3_addFunction 11 = .ok (.iload_n 1, 1) := by decide +kernel
theorem dX3_addFunction_12 : decode cX3_addFunction 12 = .ok (.iload_n 2, 1) := by decide +kernel
theorem dX3_addFunction_13 : decode cX3_addFunction 13 = .ok (.iload_n 3, 1) := by decide +kernel
theorem dX3_addFunction_14 : decode cX3_addFunction 14 = .ok (.invokevirtual 77, 3) := by decide +kernel
theorem dX3_addFunction_17 : decode cX3_addFunction 17 = .ok (.iload 4, 2) := by decide +kernel
theorem dX3_addFunction_19 : decode cX3_addFunction 19 = .ok (.ireturn, 1) := by decide +kernel
theorem dX3_addFunction_2 : decode cX3_addFunction 2 = .ok (.iconst (-1), 1) := by decide +kernel
theorem dX3_addFunction_3 : decode cX3_addFunction 3 = .ok (.invokevirtual 53, 3) := by decide +kernel
theorem dX3_addFunction_6 : decode cX3_addFunction 6 = .ok (.istore 4, 2) := by decide +kernel
theorem dX3_addFunction_8 : decode cX3_addFunction 8 = .ok (.aload_n 0, 1) := by decide +kernel
theorem dX3_addFunction_9 : decode cX3_addFunction 9 = .ok (.iload 4, 2) := by decide +kernel
theorem dX3_addOrdinary_0 : decode cX3_addOrdinary 0 = .ok (.aload_n 0, 1) := by decide +kernel
theorem dX3_addOrdinary_1 : decode cX3_addOrdinary 1 = .ok (.iconst 1, 1) := by decide +kernel
theorem dX3_addOrdinary_2 : decode cX3_addOrdinary 2 = .ok (.iload_n 1, 1) := by decide +kernel
theorem dX3_addOrdinary_3 : decode cX3_addOrdinary 3 = .ok (.invokevirtual 53, 3) := by decide +kernel
theorem dX3_addOrdinary_6 : decode cX3_addOrdinary 6 = .ok (.ireturn, 1) := by decide +kernel
theorem dX3_add_0 : decode cX3_add 0 = .ok (.aload_n 0, 1) := by decide +kernel
theorem dX3_add_1 : decode cX3_add 1 = .ok (.getfield 49, 3) := by decide +kernel
theorem dX3_add_12 : decode cX3_add 12 = .ok (.iload_n 3, 1) := by decide +kernel
theorem dX3_add_13 : decode cX3_add 13 = .ok (.aload_n 0, 1) := by decide +kernel
theorem dX3_add_14 : decode cX3_add 14 = .ok (.getfield 9, 3) := by decide +kernel
theorem dX3_add_17 : decode cX3_add 17 = .ok (.arraylength, 1) := by decide +kernel
theorem dX3_add_18 : decode cX3_add 18 = .ok (.if_icmp .lt 13, 3) := by decide +kernel
theorem dX3_add_31 : decode cX3_add 31 = .ok (.aload_n 0, 1) := by decide +kernel
theorem dX3_add_32 : decode cX3_add 32 = .ok (.getfield 9, 3) := by decide +kernel
theorem dX3_add_35 : decode cX3_add 35 = .ok (.iload_n 3, 1) := by decide +kernel
theorem dX3_add_36 : decode cX3_add 36 = .ok (.iload_n 1, 1) := by decide +kernel
theorem dX3_add_37 : decode cX3_add 37 = .ok (.iastore, 1) := by decide +kernel
theorem dX3_add_38 : decode cX3_add 38 = .ok (.aload_n 0, 1) := by decide +kernel
theorem dX3_add_39 : decode cX3_add 39 = .ok (.getfield 15, 3) := by decide +kernel
theorem dX3_add_4 : decode cX3_add 4 = .ok (.istore_n 3, 1) := by decide +kernel
theorem dX3_add_42 : decode cX3_add 42 = .ok (.iload_n 3, 1) := by decide +kernel
theorem dX3_add_43 : decode cX3_add 43 = .ok (.iload_n 2, 1) := by decide +kernel
theorem dX3_add_44 : decode cX3_add 44 = .ok (.iastore, 1) := by decide +kernel
theorem dX3_add_45 : decode cX3_add 45 = .ok (.aload_n 0, 1) := by decide +kernel
theorem dX3_add_46 : decode cX3_add 46 = .ok (.getfield 18, 3) := by decide +kernel
theorem dX3_add_49 : decode cX3_add 49 = .ok (.iload_n 3, 1) := by decide +kernel
theorem dX3_add_5 : decode cX3_add 5 = .ok (.iload_n 3, 1) := by decide +kernel
theorem dX3_add_50 : decode cX3_add 50 = .ok (.iconst 1, 1) := by decide +kernel
theorem dX3_add_51 : decode cX3_add 51 = .ok (.bastore, 1) := by decide +kernel
theorem dX3_add_52 : decode cX3_add 52 = .ok (.aload_n 0, 1) := by decide +kernel
theorem dX3_add_53 : decode cX3_add 53 = .ok (.getfield 22, 3) := by decide +kernel
theorem dX3_add_56 : decode cX3_add 56 = .ok (.iload_n 3, 1) := by decide +kernel
theorem dX3_add_57 : decode cX3_add 57 = .ok (.iconst (-1), 1) := by decide +kernel
theorem dX3_add_58 : decode cX3_add 58 = .ok (.iastore, 1) := by decide +kernel
theorem dX3_add_59 : decode cX3_add 59 = .ok (.aload_n 0, 1) := by decide +kernel
theorem dX3_add_6 : decode cX3_add 6 = .ok (.sipush 600, 3) := by decide +kernel
theorem dX3_add_60 : decode cX3_add 60 = .ok (.dup, 1) := by decide +kernel
theorem dX3_add_61 : decode cX3_add 61 = .ok (.getfield 49, 3) := by decide +kernel
theorem dX3_add_64 : decode cX3_add 64 = .ok (.iconst 1, 1) := by decide +kernel
theorem dX3_add_65 : decode cX3_add 65 = .ok (.iadd, 1) := by decide +kernel
theorem dX3_add_66 : decode cX3_add 66 = .ok (.putfield 49, 3) := by decide +kernel
theorem dX3_add_69 : decode cX3_add 69 = .ok (.bipush (-2), 2) := by decide +kernel
theorem dX3_add_71 : decode cX3_add 71 = .ok (.iload_n 3, 1) := by decide +kernel
theorem dX3_add_72 : decode cX3_add 72 = .ok (.isub, 1) := by decide +kernel
theorem dX3_add_73 : decode cX3_add 73 = .ok (.ireturn, 1) := by decide +kernel
theorem dX3_add_9 : decode cX3_add 9 = .ok (.if_icmp .ge 12, 3) := by decide +kernel
theorem dX3_append_0 : decode cX3_append 0 = .ok (.aload_n 0, 1) := by decide +kernel
theorem dX3_append_1 : decode cX3_append 1 = .ok (.getfield 57, 3) := by decide +kernel
theorem dX3_append_10 : decode cX3_append 10 = .ok (.ifCond .ne 13, 3) := by decide +kernel
theorem dX3_append_100 : decode cX3_append 100 = .ok (.aload_n 0, 1) := by decide +kernel
theorem dX3_append_101 : decode cX3_append 101 = .ok (.iload_n 1, 1) := by decide +kernel
theorem dX3_append_102 : decode cX3_append 102 = .ok (.iload 5, 2) := by decide +kernel
theorem dX3_append_104 : decode cX3_append 104 = .ok (.iload_n 3, 1) := by decide +kernel
theorem dX3_append_105 : decode cX3_append 105 = .ok (.invokevirtual 128, 3) := by decide +kernel
theorem dX3_append_108 : decode cX3_append 108 = .ok (.iload_n 3, 1) := by decide +kernel
theorem dX3_append_109 : decode cX3_append 109 = .ok (.ireturn, 1) := by decide +kernel
theorem dX3_append_23 : decode cX3_append 23 = .ok (.aload_n 0, 1) := by decide +kernel
theorem dX3_append_24 : decode cX3_append 24 = .ok (.aload_n 0, 1) := by decide +kernel
theorem dX3_append_25 : decode cX3_append 25 = .ok (.getfield 46, 3) := by decide +kernel
theorem dX3_append_28 : decode cX3_append 28 = .ok (.iload_n 3, 1) := by decide +kernel
theorem dX3_append_29 : decode cX3_append 29 = .ok (.iaload, 1) := by decide +kernel
theorem dX3_append_30 : decode cX3_append 30 = .ok (.putfield 57, 3) := by decide +kernel
theorem dX3_append_33 : decode cX3_append 33 = .ok (.aload_n 0, 1) := by decide +kernel
theorem dX3_append_34 : decode cX3_append 34 = .ok (.getfield 34, 3) := by decide +kernel
theorem dX3_append_37 : decode cX3_append 37 = .ok (.iload_n 3, 1) := by decide +kernel
theorem dX3_append_38 : decode cX3_append 38 = .ok (.iload_n 2, 1) := by decide +kernel
theorem dX3_append_39 : decode cX3_append 39 = .ok (.iastore, 1) := by decide +kernel
theorem dX3_append_4 : decode cX3_append 4 = .ok (.istore_n 3, 1) := by decide +kernel
theorem dX3_append_40 : decode cX3_append 40 = .ok (.aload_n 0, 1) := by decide +kernel
theorem dX3_append_41 : decode cX3_append 41 = .ok (.getfield 37, 3) := by decide +kernel
theorem dX3_append_44 : decode cX3_append 44 = .ok (.iload_n 3, 1) := by decide +kernel
theorem dX3_append_45 : decode cX3_append 45 = .ok (.iconst (-1), 1) := by decide +kernel
theorem dX3_append_46 : decode cX3_append 46 = .ok (.iastore, 1) := by decide +kernel
theorem dX3_append_47 : decode cX3_append 47 = .ok (.aload_n 0, 1) := by decide +kernel
theorem dX3_append_48 : decode cX3_append 48 = .ok (.getfield 40, 3) := by decide +kernel
theorem dX3_append_5 : decode cX3_append 5 = .ok (.aload_n 0, 1) := by decide +kernel
theorem dX3_append_51 : decode cX3_append 51 = .ok (.iload_n 3, 1) := by decide +kernel
theorem dX3_append_52 : decode cX3_append 52 = .ok (.iconst (-1), 1) := by decide +kernel
theorem dX3_append_53 : decode cX3_append 53 = .ok (.iastore, 1) := by decide +kernel
theorem dX3_append_54 : decode cX3_append 54 = .ok (.aload_n 0, 1) := by decide +kernel
theorem dX3_append_55 : decode cX3_append 55 = .ok (.getfield 43, 3) := by decide +kernel
theorem dX3_append_58 : decode cX3_append 58 = .ok (.iload_n 3, 1) := by decide +kernel
theorem dX3_append_59 : decode cX3_append 59 = .ok (.iconst 0, 1) := by decide +kernel
theorem dX3_append_6 : decode cX3_append 6 = .ok (.iload_n 3, 1) := by decide +kernel
theorem dX3_append_60 : decode cX3_append 60 = .ok (.iastore, 1) := by decide +kernel
theorem dX3_append_61 : decode cX3_append 61 = .ok (.aload_n 0, 1) := by decide +kernel
theorem dX3_append_62 : decode cX3_append 62 = .ok (.iload_n 1, 1) := by decide +kernel
theorem dX3_append_63 : decode cX3_append 63 = .ok (.invokevirtual 113, 3) := by decide +kernel
theorem dX3_append_66 : decode cX3_append 66 = .ok (.istore 4, 2) := by decide +kernel
theorem dX3_append_68 : decode cX3_append 68 = .ok (.aload_n 0, 1) := by decide +kernel
theorem dX3_append_69 : decode cX3_append 69 = .ok (.iload 4, 2) := by decide +kernel
theorem dX3_append_7 : decode cX3_append 7 = .ok (.invokevirtual 107, 3) := by decide +kernel
theorem dX3_append_71 : decode cX3_append 71 = .ok (.iload_n 2, 1) := by decide +kernel
theorem dX3_append_72 : decode cX3_append 72 = .ok (.invokevirtual 122, 3) := by decide +kernel
theorem dX3_append_75 : decode cX3_append 75 = .ok (.istore 5, 2) := by decide +kernel
theorem dX3_append_77 : decode cX3_append 77 = .ok (.aload_n 0, 1) := by decide +kernel
theorem dX3_append_78 : decode cX3_append 78 = .ok (.getfield 46, 3) := by decide +kernel
theorem dX3_append_81 : decode cX3_append 81 = .ok (.iload_n 3, 1) := by decide +kernel
theorem dX3_append_82 : decode cX3_append 82 = .ok (.iload 5, 2) := by decide +kernel
theorem dX3_append_84 : decode cX3_append 84 = .ok (.iconst (-1), 1) := by decide +kernel
theorem dX3_append_85 : decode cX3_append 85 = .ok (.if_icmp .ne 8, 3) := by decide +kernel
theorem dX3_append_88 : decode cX3_append 88 = .ok (.iload 4, 2) := by decide +kernel
theorem dX3_append_90 : decode cX3_append 90 = .ok (.goto 9, 3) := by decide +kernel
theorem dX3_append_99 : decode cX3_append 99 = .ok (.iastore, 1) := by decide +kernel
theorem dX3_firstSlotOf_0 : decode cX3_firstSlotOf 0 = .ok (.aload_n 0, 1) := by decide +kernel
theorem dX3_firstSlotOf_1 : decode cX3_firstSlotOf 1 = .ok (.iload_n 1, 1) := by decide +kernel
theorem dX3_firstSlotOf_10 : decode cX3_firstSlotOf 10 = .ok (.aload_n 0, 1) := by decide +kernel
theorem dX3_firstSlotOf_11 : decode cX3_firstSlotOf 11 = .ok (.getfield 22, 3) := by decide +kernel
theorem dX3_firstSlotOf_14 : decode cX3_firstSlotOf 14 = .ok (.iload_n 2, 1) := by decide +kernel
theorem dX3_firstSlotOf_15 : decode cX3_firstSlotOf 15 = .ok (.iaload, 1) := by decide +kernel
theorem dX3_firstSlotOf_16 : decode cX3_firstSlotOf 16 = .ok (.goto 4, 3) := by decide +kernel
theorem dX3_firstSlotOf_2 : decode cX3_firstSlotOf 2 = .ok (.invokevirtual 83, 3) := by decide +kernel
theorem dX3_firstSlotOf_20 : decode cX3_firstSlotOf 20 = .ok (.ireturn, 1) := by decide +kernel
theorem dX3_firstSlotOf_5 : decode cX3_firstSlotOf 5 = .ok (.istore_n 2, 1) := by decide +kernel
theorem dX3_firstSlotOf_6 : decode cX3_firstSlotOf 6 = .ok (.iload_n 2, 1) := by decide +kernel
theorem dX3_firstSlotOf_7 : decode cX3_firstSlotOf 7 = .ok (.ifCond .lt 12, 3) := by decide +kernel
theorem dX3_init_0 : decode cX3_init 0 = .ok (.aload_n 0, 1) := by decide +kernel
theorem dX3_init_1 : decode cX3_init 1 = .ok (.invokespecial 3, 3) := by decide +kernel
theorem dX3_init_10 : decode cX3_init 10 = .ok (.putfield 9, 3) := by decide +kernel
theorem dX3_init_100 : decode cX3_init 100 = .ok (.putfield 43, 3) := by decide +kernel
theorem dX3_init_103 : decode cX3_init 103 = .ok (.aload_n 0, 1) := by decide +kernel
theorem dX3_init_104 : decode cX3_init 104 = .ok (.sipush 5999, 3) := by decide +kernel
theorem dX3_init_107 : decode cX3_init 107 = .ok (.newarray .int, 2) := by decide +kernel
theorem dX3_init_109 : decode cX3_init 109 = .ok (.putfield 46, 3) := by decide +kernel
theorem dX3_init_112 : decode cX3_init 112 = .ok (.iconst 0, 1) := by decide +kernel
theorem dX3_init_113 : decode cX3_init 113 = .ok (.istore_n 1, 1) := by decide +kernel
theorem dX3_init_114 : decode cX3_init 114 = .ok (.iload_n 1, 1) := by decide +kernel
theorem dX3_init_115 : decode cX3_init 115 = .ok (.aload_n 0, 1) := by decide +kernel
theorem dX3_init_116 : decode cX3_init 116 = .ok (.getfield 46, 3) := by decide +kernel
theorem dX3_init_119 : decode cX3_init 119 = .ok (.arraylength, 1) := by decide +kernel
theorem dX3_init_120 : decode cX3_init 120 = .ok (.if_icmp .ge 33, 3) := by decide +kernel
theorem dX3_init_123 : decode cX3_init 123 = .ok (.aload_n 0, 1) := by decide +kernel
theorem dX3_init_124 : decode cX3_init 124 = .ok (.getfield 46, 3) := by decide +kernel
theorem dX3_init_127 : decode cX3_init 127 = .ok (.iload_n 1, 1) := by decide +kernel
theorem dX3_init_128 : decode cX3_init 128 = .ok (.iload_n 1, 1) := by decide +kernel
theorem dX3_init_129 : decode cX3_init 129 = .ok (.iconst 1, 1) := by decide +kernel
theorem dX3_init_13 : decode cX3_init 13 = .ok (.aload_n 0, 1) := by decide +kernel
theorem dX3_init_130 : decode cX3_init 130 = .ok (.iadd, 1) := by decide +kernel
theorem dX3_init_131 : decode cX3_init 131 = .ok (.aload_n 0, 1) := by decide +kernel
theorem dX3_init_132 : decode cX3_init 132 = .ok (.getfield 46, 3) := by decide +kernel
theorem dX3_init_135 : decode cX3_init 135 = .ok (.arraylength, 1) := by decide +kernel
theorem dX3_init_136 : decode cX3_init 136 = .ok (.if_icmp .ge 9, 3) := by decide +kernel
theorem dX3_init_139 : decode cX3_init 139 = .ok (.iload_n 1, 1) := by decide +kernel
theorem dX3_init_14 : decode cX3_init 14 = .ok (.sipush 600, 3) := by decide +kernel
theorem dX3_init_140 : decode cX3_init 140 = .ok (.iconst 1, 1) := by decide +kernel
theorem dX3_init_141 : decode cX3_init 141 = .ok (.iadd, 1) := by decide +kernel
theorem dX3_init_142 : decode cX3_init 142 = .ok (.goto 4, 3) := by decide +kernel
theorem dX3_init_145 : decode cX3_init 145 = .ok (.iconst (-1), 1) := by decide +kernel
theorem dX3_init_146 : decode cX3_init 146 = .ok (.iastore, 1) := by decide +kernel
theorem dX3_init_147 : decode cX3_init 147 = .ok (.iinc 1 1, 3) := by decide +kernel
theorem dX3_init_150 : decode cX3_init 150 = .ok (.goto (-36), 3) := by decide +kernel
theorem dX3_init_153 : decode cX3_init 153 = .ok (.return_, 1) := by decide +kernel
theorem dX3_init_17 : decode cX3_init 17 = .ok (.newarray .int, 2) := by decide +kernel
theorem dX3_init_19 : decode cX3_init 19 = .ok (.putfield 15, 3) := by decide +kernel
theorem dX3_init_22 : decode cX3_init 22 = .ok (.aload_n 0, 1) := by decide +kernel
theorem dX3_init_23 : decode cX3_init 23 = .ok (.sipush 600, 3) := by decide +kernel
theorem dX3_init_26 : decode cX3_init 26 = .ok (.newarray .boolean, 2) := by decide +kernel
theorem dX3_init_28 : decode cX3_init 28 = .ok (.putfield 18, 3) := by decide +kernel
theorem dX3_init_31 : decode cX3_init 31 = .ok (.aload_n 0, 1) := by decide +kernel
theorem dX3_init_32 : decode cX3_init 32 = .ok (.sipush 600, 3) := by decide +kernel
theorem dX3_init_35 : decode cX3_init 35 = .ok (.newarray .int, 2) := by decide +kernel
theorem dX3_init_37 : decode cX3_init 37 = .ok (.putfield 22, 3) := by decide +kernel
theorem dX3_init_4 : decode cX3_init 4 = .ok (.aload_n 0, 1) := by decide +kernel
theorem dX3_init_40 : decode cX3_init 40 = .ok (.aload_n 0, 1) := by decide +kernel
theorem dX3_init_41 : decode cX3_init 41 = .ok (.sipush 600, 3) := by decide +kernel
theorem dX3_init_44 : decode cX3_init 44 = .ok (.newarray .int, 2) := by decide +kernel
theorem dX3_init_46 : decode cX3_init 46 = .ok (.putfield 25, 3) := by decide +kernel
theorem dX3_init_49 : decode cX3_init 49 = .ok (.aload_n 0, 1) := by decide +kernel
theorem dX3_init_5 : decode cX3_init 5 = .ok (.sipush 600, 3) := by decide +kernel
theorem dX3_init_50 : decode cX3_init 50 = .ok (.sipush 600, 3) := by decide +kernel
theorem dX3_init_53 : decode cX3_init 53 = .ok (.newarray .int, 2) := by decide +kernel
theorem dX3_init_55 : decode cX3_init 55 = .ok (.putfield 28, 3) := by decide +kernel
theorem dX3_init_58 : decode cX3_init 58 = .ok (.aload_n 0, 1) := by decide +kernel
theorem dX3_init_59 : decode cX3_init 59 = .ok (.sipush 600, 3) := by decide +kernel
theorem dX3_init_62 : decode cX3_init 62 = .ok (.newarray .int, 2) := by decide +kernel
theorem dX3_init_64 : decode cX3_init 64 = .ok (.putfield 31, 3) := by decide +kernel
theorem dX3_init_67 : decode cX3_init 67 = .ok (.aload_n 0, 1) := by decide +kernel
theorem dX3_init_68 : decode cX3_init 68 = .ok (.sipush 5999, 3) := by decide +kernel
theorem dX3_init_71 : decode cX3_init 71 = .ok (.newarray .int, 2) := by decide +kernel
theorem dX3_init_73 : decode cX3_init 73 = .ok (.putfield 34, 3) := by decide +kernel
theorem dX3_init_76 : decode cX3_init 76 = .ok (.aload_n 0, 1) := by decide +kernel
theorem dX3_init_77 : decode cX3_init 77 = .ok (.sipush 5999, 3) := by decide +kernel
theorem dX3_init_8 : decode cX3_init 8 = .ok (.newarray .int, 2) := by decide +kernel
theorem dX3_init_80 : decode cX3_init 80 = .ok (.newarray .int, 2) := by decide +kernel
theorem dX3_init_82 : decode cX3_init 82 = .ok (.putfield 37, 3) := by decide +kernel
theorem dX3_init_85 : decode cX3_init 85 = .ok (.aload_n 0, 1) := by decide +kernel
theorem dX3_init_86 : decode cX3_init 86 = .ok (.sipush 5999, 3) := by decide +kernel
theorem dX3_init_89 : decode cX3_init 89 = .ok (.newarray .int, 2) := by decide +kernel
theorem dX3_init_91 : decode cX3_init 91 = .ok (.putfield 40, 3) := by decide +kernel
theorem dX3_init_94 : decode cX3_init 94 = .ok (.aload_n 0, 1) := by decide +kernel
theorem dX3_init_95 : decode cX3_init 95 = .ok (.sipush 5999, 3) := by decide +kernel
theorem dX3_init_98 : decode cX3_init 98 = .ok (.newarray .int, 2) := by decide +kernel
theorem dX3_isObject_0 : decode cX3_isObject 0 = .ok (.aload_n 0, 1) := by decide +kernel
theorem dX3_isObject_1 : decode cX3_isObject 1 = .ok (.iload_n 1, 1) := by decide +kernel
theorem dX3_isObject_12 : decode cX3_isObject 12 = .ok (.iconst 0, 1) := by decide +kernel
theorem dX3_isObject_13 : decode cX3_isObject 13 = .ok (.ireturn, 1) := by decide +kernel
theorem dX3_isObject_2 : decode cX3_isObject 2 = .ok (.invokevirtual 83, 3) := by decide +kernel
theorem dX3_isObject_5 : decode cX3_isObject 5 = .ok (.ifCond .lt 7, 3) := by decide +kernel
theorem dX3_isProxy_0 : decode cX3_isProxy 0 = .ok (.aload_n 0, 1) := by decide +kernel
theorem dX3_isProxy_1 : decode cX3_isProxy 1 = .ok (.iload_n 1, 1) := by decide +kernel
theorem dX3_isProxy_13 : decode cX3_isProxy 13 = .ok (.iconst 0, 1) := by decide +kernel
theorem dX3_isProxy_14 : decode cX3_isProxy 14 = .ok (.ireturn, 1) := by decide +kernel
theorem dX3_isProxy_2 : decode cX3_isProxy 2 = .ok (.invokevirtual 87, 3) := by decide +kernel
theorem dX3_isProxy_5 : decode cX3_isProxy 5 = .ok (.iconst 4, 1) := by decide +kernel
theorem dX3_isProxy_6 : decode cX3_isProxy 6 = .ok (.if_icmp .ne 7, 3) := by decide +kernel
theorem dX3_isSlot_0 : decode cX3_isSlot 0 = .ok (.iload_n 1, 1) := by decide +kernel
theorem dX3_isSlot_1 : decode cX3_isSlot 1 = .ok (.ifCond .lt 14, 3) := by decide +kernel
theorem dX3_isSlot_11 : decode cX3_isSlot 11 = .ok (.iconst 1, 1) := by decide +kernel
theorem dX3_isSlot_12 : decode cX3_isSlot 12 = .ok (.goto 4, 3) := by decide +kernel
theorem dX3_isSlot_15 : decode cX3_isSlot 15 = .ok (.iconst 0, 1) := by decide +kernel
theorem dX3_isSlot_16 : decode cX3_isSlot 16 = .ok (.ireturn, 1) := by decide +kernel
theorem dX3_isSlot_4 : decode cX3_isSlot 4 = .ok (.iload_n 1, 1) := by decide +kernel
theorem dX3_isSlot_5 : decode cX3_isSlot 5 = .ok (.sipush 5999, 3) := by decide +kernel
theorem dX3_isSlot_8 : decode cX3_isSlot 8 = .ok (.if_icmp .ge 7, 3) := by decide +kernel
theorem dX3_kindOf_0 : decode cX3_kindOf 0 = .ok (.aload_n 0, 1) := by decide +kernel
theorem dX3_kindOf_1 : decode cX3_kindOf 1 = .ok (.iload_n 1, 1) := by decide +kernel
theorem dX3_kindOf_19 : decode cX3_kindOf 19 = .ok (.iconst 0, 1) := by decide +kernel
theorem dX3_kindOf_2 : decode cX3_kindOf 2 = .ok (.invokevirtual 83, 3) := by decide +kernel
theorem dX3_kindOf_20 : decode cX3_kindOf 20 = .ok (.ireturn, 1) := by decide +kernel
theorem dX3_kindOf_5 : decode cX3_kindOf 5 = .ok (.istore_n 2, 1) := by decide +kernel
theorem dX3_kindOf_6 : decode cX3_kindOf 6 = .ok (.iload_n 2, 1) := by decide +kernel
theorem dX3_kindOf_7 : decode cX3_kindOf 7 = .ok (.ifCond .lt 12, 3) := by decide +kernel
theorem dX3_link_0 : decode cX3_link 0 = .ok (.aload_n 0, 1) := by decide +kernel
theorem dX3_link_1 : decode cX3_link 1 = .ok (.iload_n 1, 1) := by decide +kernel
theorem dX3_link_12 : decode cX3_link 12 = .ok (.ifCond .eq 13, 3) := by decide +kernel
theorem dX3_link_2 : decode cX3_link 2 = .ok (.invokevirtual 83, 3) := by decide +kernel
theorem dX3_link_25 : decode cX3_link 25 = .ok (.iload 4, 2) := by decide +kernel
theorem dX3_link_27 : decode cX3_link 27 = .ok (.ifCond .lt 11, 3) := by decide +kernel
theorem dX3_link_30 : decode cX3_link 30 = .ok (.aload_n 0, 1) := by decide +kernel
theorem dX3_link_31 : decode cX3_link 31 = .ok (.getfield 22, 3) := by decide +kernel
theorem dX3_link_34 : decode cX3_link 34 = .ok (.iload 4, 2) := by decide +kernel
theorem dX3_link_36 : decode cX3_link 36 = .ok (.iload_n 3, 1) := by decide +kernel
theorem dX3_link_37 : decode cX3_link 37 = .ok (.iastore, 1) := by decide +kernel
theorem dX3_link_38 : decode cX3_link 38 = .ok (.return_, 1) := by decide +kernel
theorem dX3_link_5 : decode cX3_link 5 = .ok (.istore 4, 2) := by decide +kernel
theorem dX3_link_7 : decode cX3_link 7 = .ok (.aload_n 0, 1) := by decide +kernel
theorem dX3_link_8 : decode cX3_link 8 = .ok (.iload_n 2, 1) := by decide +kernel
theorem dX3_link_9 : decode cX3_link 9 = .ok (.invokevirtual 107, 3) := by decide +kernel
theorem dX3_putFlagsAt_0 : decode cX3_putFlagsAt 0 = .ok (.aload_n 0, 1) := by decide +kernel
theorem dX3_putFlagsAt_1 : decode cX3_putFlagsAt 1 = .ok (.iload_n 1, 1) := by decide +kernel
theorem dX3_putFlagsAt_12 : decode cX3_putFlagsAt 12 = .ok (.iload_n 1, 1) := by decide +kernel
theorem dX3_putFlagsAt_13 : decode cX3_putFlagsAt 13 = .ok (.iload_n 2, 1) := by decide +kernel
theorem dX3_putFlagsAt_14 : decode cX3_putFlagsAt 14 = .ok (.iastore, 1) := by decide +kernel
theorem dX3_putFlagsAt_15 : decode cX3_putFlagsAt 15 = .ok (.return_, 1) := by decide +kernel
theorem dX3_putFlagsAt_2 : decode cX3_putFlagsAt 2 = .ok (.invokevirtual 107, 3) := by decide +kernel
theorem dX3_putFlagsAt_5 : decode cX3_putFlagsAt 5 = .ok (.ifCond .eq 10, 3) := by decide +kernel
theorem dX3_putFlagsAt_8 : decode cX3_putFlagsAt 8 = .ok (.aload_n 0, 1) := by decide +kernel
theorem dX3_putFlagsAt_9 : decode cX3_putFlagsAt 9 = .ok (.getfield 43, 3) := by decide +kernel
theorem dX3_putParts_0 : decode cX3_putParts 0 = .ok (.aload_n 0, 1) := by decide +kernel
theorem dX3_putParts_1 : decode cX3_putParts 1 = .ok (.iload_n 1, 1) := by decide +kernel
theorem dX3_putParts_12 : decode cX3_putParts 12 = .ok (.aload_n 0, 1) := by decide +kernel
theorem dX3_putParts_13 : decode cX3_putParts 13 = .ok (.getfield 25, 3) := by decide +kernel
theorem dX3_putParts_16 : decode cX3_putParts 16 = .ok (.iload 5, 2) := by decide +kernel
theorem dX3_putParts_18 : decode cX3_putParts 18 = .ok (.iload_n 2, 1) := by decide +kernel
theorem dX3_putParts_19 : decode cX3_putParts 19 = .ok (.iastore, 1) := by decide +kernel
theorem dX3_putParts_2 : decode cX3_putParts 2 = .ok (.invokevirtual 83, 3) := by decide +kernel
theorem dX3_putParts_20 : decode cX3_putParts 20 = .ok (.aload_n 0, 1) := by decide +kernel
theorem dX3_putParts_21 : decode cX3_putParts 21 = .ok (.getfield 28, 3) := by decide +kernel
theorem dX3_putParts_24 : decode cX3_putParts 24 = .ok (.iload 5, 2) := by decide +kernel
theorem dX3_putParts_26 : decode cX3_putParts 26 = .ok (.iload_n 3, 1) := by decide +kernel
theorem dX3_putParts_27 : decode cX3_putParts 27 = .ok (.iastore, 1) := by decide +kernel
theorem dX3_putParts_28 : decode cX3_putParts 28 = .ok (.aload_n 0, 1) := by decide +kernel
theorem dX3_putParts_29 : decode cX3_putParts 29 = .ok (.getfield 31, 3) := by decide +kernel
theorem dX3_putParts_32 : decode cX3_putParts 32 = .ok (.iload 5, 2) := by decide +kernel
theorem dX3_putParts_34 : decode cX3_putParts 34 = .ok (.iload 4, 2) := by decide +kernel
theorem dX3_putParts_36 : decode cX3_putParts 36 = .ok (.iastore, 1) := by decide +kernel
theorem dX3_putParts_37 : decode cX3_putParts 37 = .ok (.return_, 1) := by decide +kernel
theorem dX3_putParts_5 : decode cX3_putParts 5 = .ok (.istore 5, 2) := by decide +kernel
theorem dX3_putParts_7 : decode cX3_putParts 7 = .ok (.iload 5, 2) := by decide +kernel
theorem dX3_putParts_9 : decode cX3_putParts 9 = .ok (.ifCond .lt 28, 3) := by decide +kernel
theorem dX3_putValueAt_0 : decode cX3_putValueAt 0 = .ok (.aload_n 0, 1) := by decide +kernel
theorem dX3_putValueAt_1 : decode cX3_putValueAt 1 = .ok (.iload_n 1, 1) := by decide +kernel
theorem dX3_putValueAt_12 : decode cX3_putValueAt 12 = .ok (.iload_n 1, 1) := by decide +kernel
theorem dX3_putValueAt_13 : decode cX3_putValueAt 13 = .ok (.iload_n 2, 1) := by decide +kernel
theorem dX3_putValueAt_14 : decode cX3_putValueAt 14 = .ok (.iastore, 1) := by decide +kernel
theorem dX3_putValueAt_15 : decode cX3_putValueAt 15 = .ok (.return_, 1) := by decide +kernel
theorem dX3_putValueAt_2 : decode cX3_putValueAt 2 = .ok (.invokevirtual 107, 3) := by decide +kernel
theorem dX3_putValueAt_5 : decode cX3_putValueAt 5 = .ok (.ifCond .eq 10, 3) := by decide +kernel
theorem dX3_putValueAt_8 : decode cX3_putValueAt 8 = .ok (.aload_n 0, 1) := by decide +kernel
theorem dX3_putValueAt_9 : decode cX3_putValueAt 9 = .ok (.getfield 37, 3) := by decide +kernel
theorem dX3_rowOf_0 : decode cX3_rowOf 0 = .ok (.bipush (-2), 2) := by decide +kernel
theorem dX3_rowOf_10 : decode cX3_rowOf 10 = .ok (.aload_n 0, 1) := by decide +kernel
theorem dX3_rowOf_11 : decode cX3_rowOf 11 = .ok (.getfield 49, 3) := by decide +kernel
theorem dX3_rowOf_14 : decode cX3_rowOf 14 = .ok (.if_icmp .ge 14, 3) := by decide +kernel
theorem dX3_rowOf_17 : decode cX3_rowOf 17 = .ok (.iload_n 2, 1) := by decide +kernel
theorem dX3_rowOf_18 : decode cX3_rowOf 18 = .ok (.sipush 600, 3) := by decide +kernel
theorem dX3_rowOf_2 : decode cX3_rowOf 2 = .ok (.iload_n 1, 1) := by decide +kernel
theorem dX3_rowOf_21 : decode cX3_rowOf 21 = .ok (.if_icmp .ge 7, 3) := by decide +kernel
theorem dX3_rowOf_24 : decode cX3_rowOf 24 = .ok (.iload_n 2, 1) := by decide +kernel
theorem dX3_rowOf_25 : decode cX3_rowOf 25 = .ok (.goto 4, 3) := by decide +kernel
theorem dX3_rowOf_28 : decode cX3_rowOf 28 = .ok (.iconst (-1), 1) := by decide +kernel
theorem dX3_rowOf_29 : decode cX3_rowOf 29 = .ok (.ireturn, 1) := by decide +kernel
theorem dX3_rowOf_3 : decode cX3_rowOf 3 = .ok (.isub, 1) := by decide +kernel
theorem dX3_rowOf_4 : decode cX3_rowOf 4 = .ok (.istore_n 2, 1) := by decide +kernel
theorem dX3_rowOf_5 : decode cX3_rowOf 5 = .ok (.iload_n 2, 1) := by decide +kernel
theorem dX3_rowOf_6 : decode cX3_rowOf 6 = .ok (.ifCond .lt 22, 3) := by decide +kernel
theorem dX3_rowOf_9 : decode cX3_rowOf 9 = .ok (.iload_n 2, 1) := by decide +kernel
theorem dX3_size_0 : decode cX3_size 0 = .ok (.aload_n 0, 1) := by decide +kernel
theorem dX3_size_1 : decode cX3_size 1 = .ok (.getfield 49, 3) := by decide +kernel
theorem dX3_size_4 : decode cX3_size 4 = .ok (.ireturn, 1) := by decide +kernel
theorem dX3_slotBefore_0 : decode cX3_slotBefore 0 = .ok (.iconst (-1), 1) := by decide +kernel
theorem dX3_slotBefore_1 : decode cX3_slotBefore 1 = .ok (.istore_n 3, 1) := by decide +kernel
theorem dX3_slotBefore_10 : decode cX3_slotBefore 10 = .ok (.sipush 250, 3) := by decide +kernel
theorem dX3_slotBefore_13 : decode cX3_slotBefore 13 = .ok (.if_icmp .ge 50, 3) := by decide +kernel
theorem dX3_slotBefore_16 : decode cX3_slotBefore 16 = .ok (.iload 4, 2) := by decide +kernel
theorem dX3_slotBefore_18 : decode cX3_slotBefore 18 = .ok (.ifCond .lt 45, 3) := by decide +kernel
theorem dX3_slotBefore_2 : decode cX3_slotBefore 2 = .ok (.iload_n 1, 1) := by decide +kernel
theorem dX3_slotBefore_3 : decode cX3_slotBefore 3 = .ok (.istore 4, 2) := by decide +kernel
theorem dX3_slotBefore_5 : decode cX3_slotBefore 5 = .ok (.iconst 0, 1) := by decide +kernel
theorem dX3_slotBefore_6 : decode cX3_slotBefore 6 = .ok (.istore 5, 2) := by decide +kernel
theorem dX3_slotBefore_63 : decode cX3_slotBefore 63 = .ok (.iload_n 3, 1) := by decide +kernel
theorem dX3_slotBefore_64 : decode cX3_slotBefore 64 = .ok (.ireturn, 1) := by decide +kernel
theorem dX3_slotBefore_8 : decode cX3_slotBefore 8 = .ok (.iload 5, 2) := by decide +kernel
theorem dX4_forget_0 : decode cX4_forget 0 = .ok (.aload_n 0, 1) := by decide +kernel
theorem dX4_forget_1 : decode cX4_forget 1 = .ok (.dup, 1) := by decide +kernel
theorem dX4_forget_10 : decode cX4_forget 10 = .ok (.return_, 1) := by decide +kernel
theorem dX4_forget_2 : decode cX4_forget 2 = .ok (.getfield 18, 3) := by decide +kernel
theorem dX4_forget_5 : decode cX4_forget 5 = .ok (.iconst 1, 1) := by decide +kernel
theorem dX4_forget_6 : decode cX4_forget 6 = .ok (.iadd, 1) := by decide +kernel
theorem dX4_forget_7 : decode cX4_forget 7 = .ok (.putfield 18, 3) := by decide +kernel
theorem dX4_init_0 : decode cX4_init 0 = .ok (.aload_n 0, 1) := by decide +kernel
theorem dX4_init_1 : decode cX4_init 1 = .ok (.invokespecial 3, 3) := by decide +kernel
theorem dX4_init_10 : decode cX4_init 10 = .ok (.putfield 9, 3) := by decide +kernel
theorem dX4_init_13 : decode cX4_init 13 = .ok (.aload_n 0, 1) := by decide +kernel
theorem dX4_init_14 : decode cX4_init 14 = .ok (.sipush 600, 3) := by decide +kernel
theorem dX4_init_17 : decode cX4_init 17 = .ok (.newarray .int, 2) := by decide +kernel
theorem dX4_init_19 : decode cX4_init 19 = .ok (.putfield 15, 3) := by decide +kernel
theorem dX4_init_22 : decode cX4_init 22 = .ok (.aload_n 0, 1) := by decide +kernel
theorem dX4_init_23 : decode cX4_init 23 = .ok (.iconst 1, 1) := by decide +kernel
theorem dX4_init_24 : decode cX4_init 24 = .ok (.putfield 18, 3) := by decide +kernel
theorem dX4_init_27 : decode cX4_init 27 = .ok (.return_, 1) := by decide +kernel
theorem dX4_init_4 : decode cX4_init 4 = .ok (.aload_n 0, 1) := by decide +kernel
theorem dX4_init_5 : decode cX4_init 5 = .ok (.sipush 600, 3) := by decide +kernel
theorem dX4_init_8 : decode cX4_init 8 = .ok (.newarray .int, 2) := by decide +kernel
theorem dX5_about_0 : decode cX5_about 0 = .ok (.aload_n 0, 1) := by decide +kernel
theorem dX5_about_1 : decode cX5_about 1 = .ok (.invokevirtual 55, 3) := by decide +kernel
theorem dX5_about_4 : decode cX5_about 4 = .ok (.aload_n 0, 1) := by decide +kernel
theorem dX5_about_5 : decode cX5_about 5 = .ok (.iload_n 1, 1) := by decide +kernel
theorem dX5_about_6 : decode cX5_about 6 = .ok (.invokevirtual 88, 3) := by decide +kernel
theorem dX5_array_0 : decode cX5_array 0 = .ok (.aload_n 0, 1) := by decide +kernel
theorem dX5_array_1 : decode cX5_array 1 = .ok (.invokevirtual 55, 3) := by decide +kernel
theorem dX5_array_11 : decode cX5_array 11 = .ok (.if_icmp .le 13, 3) := by decide +kernel
theorem dX5_array_14 : decode cX5_array 14 = .ok (.new 66, 3) := by decide +kernel
theorem dX5_array_17 : decode cX5_array 17 = .ok (.dup, 1) := by decide +kernel
theorem dX5_array_18 : decode cX5_array 18 = .ok (.ldc 68, 2) := by decide +kernel
theorem dX5_array_20 : decode cX5_array 20 = .ok (.invokespecial 70, 3) := by decide +kernel
theorem dX5_array_23 : decode cX5_array 23 = .ok (.athrow, 1) := by decide +kernel
theorem dX5_array_24 : decode cX5_array 24 = .ok (.aload_n 0, 1) := by decide +kernel
theorem dX5_array_25 : decode cX5_array 25 = .ok (.getfield 12, 3) := by decide +kernel
theorem dX5_array_28 : decode cX5_array 28 = .ok (.iload_n 1, 1) := by decide +kernel
theorem dX5_array_29 : decode cX5_array 29 = .ok (.invokevirtual 73, 3) := by decide +kernel
theorem dX5_array_32 : decode cX5_array 32 = .ok (.ireturn, 1) := by decide +kernel
theorem dX5_array_4 : decode cX5_array 4 = .ok (.iload_n 1, 1) := by decide +kernel
theorem dX5_array_5 : decode cX5_array 5 = .ok (.ifCond .lt 9, 3) := by decide +kernel
theorem dX5_array_8 : decode cX5_array 8 = .ok (.iload_n 1, 1) := by decide +kernel
theorem dX5_array_9 : decode cX5_array 9 = .ok (.bipush 100, 2) := by decide +kernel
theorem dX5_assign_0 : decode cX5_assign 0 = .ok (.aload_n 0, 1) := by decide +kernel
theorem dX5_assign_1 : decode cX5_assign 1 = .ok (.invokevirtual 55, 3) := by decide +kernel
theorem dX5_assign_4 : decode cX5_assign 4 = .ok (.aload_n 0, 1) := by decide +kernel
theorem dX5_assign_5 : decode cX5_assign 5 = .ok (.iload_n 1, 1) := by decide +kernel
theorem dX5_assign_6 : decode cX5_assign 6 = .ok (.invokevirtual 88, 3) := by decide +kernel
theorem dX5_begin_0 : decode cX5_begin 0 = .ok (.aload_n 0, 1) := by decide +kernel
theorem dX5_begin_1 : decode cX5_begin 1 = .ok (.iconst 0, 1) := by decide +kernel
theorem dX5_begin_10 : decode cX5_begin 10 = .ok (.aload_n 0, 1) := by decide +kernel
theorem dX5_begin_11 : decode cX5_begin 11 = .ok (.getfield 26, 3) := by decide +kernel
theorem dX5_begin_14 : decode cX5_begin 14 = .ok (.iconst 0, 1) := by decide +kernel
theorem dX5_begin_15 : decode cX5_begin 15 = .ok (.invokevirtual 210, 3) := by decide +kernel
theorem dX5_begin_18 : decode cX5_begin 18 = .ok (.aload_n 0, 1) := by decide +kernel
theorem dX5_begin_19 : decode cX5_begin 19 = .ok (.getfield 33, 3) := by decide +kernel
theorem dX5_begin_2 : decode cX5_begin 2 = .ok (.putfield 118, 3) := by decide +kernel
theorem dX5_begin_22 : decode cX5_begin 22 = .ok (.invokevirtual 213, 3) := by decide +kernel
theorem dX5_begin_25 : decode cX5_begin 25 = .ok (.return_, 1) := by decide +kernel
theorem dX5_begin_5 : decode cX5_begin 5 = .ok (.aload_n 0, 1) := by decide +kernel
theorem dX5_begin_6 : decode cX5_begin 6 = .ok (.iconst 0, 1) := by decide +kernel
theorem dX5_begin_7 : decode cX5_begin 7 = .ok (.putfield 202, 3) := by decide +kernel
theorem dX5_call_0 : decode cX5_call 0 = .ok (.iload_n 1, 1) := by decide +kernel
theorem dX5_call_1 : decode cX5_call 1 = .ok (.ifCond .lt 29, 3) := by decide +kernel
theorem dX5_call_30 : decode cX5_call 30 = .ok (.iconst (-1), 1) := by decide +kernel
theorem dX5_call_31 : decode cX5_call 31 = .ok (.ireturn, 1) := by decide +kernel
theorem dX5_call_4 : decode cX5_call 4 = .ok (.iload_n 1, 1) := by decide +kernel
theorem dX5_call_5 : decode cX5_call 5 = .ok (.aload_n 0, 1) := by decide +kernel
theorem dX5_call_6 : decode cX5_call 6 = .ok (.getfield 202, 3) := by decide +kernel
theorem dX5_call_9 : decode cX5_call 9 = .ok (.if_icmp .ge 21, 3) := by decide +kernel
theorem dX5_count_0 : decode cX5_count 0 = .ok (.iload_n 1, 1) := by decide +kernel
theorem dX5_count_1 : decode cX5_count 1 = .ok (.tableswitch 54 0 3 #[31, 39, 44, 49], 31) := by decide +kernel
theorem dX5_count_32 : decode cX5_count 32 = .ok (.aload_n 0, 1) := by decide +kernel
theorem dX5_count_33 : decode cX5_count 33 = .ok (.getfield 12, 3) := by decide +kernel
theorem dX5_count_36 : decode cX5_count 36 = .ok (.invokevirtual 205, 3) := by decide +kernel
theorem dX5_count_39 : decode cX5_count 39 = .ok (.ireturn, 1) := by decide +kernel
theorem dX5_count_40 : decode cX5_count 40 = .ok (.aload_n 0, 1) := by decide +kernel
theorem dX5_count_41 : decode cX5_count 41 = .ok (.getfield 202, 3) := by decide +kernel
theorem dX5_count_44 : decode cX5_count 44 = .ok (.ireturn, 1) := by decide +kernel
theorem dX5_count_45 : decode cX5_count 45 = .ok (.aload_n 0, 1) := by decide +kernel
theorem dX5_count_46 : decode cX5_count 46 = .ok (.getfield 172, 3) := by decide +kernel
theorem dX5_count_49 : decode cX5_count 49 = .ok (.ireturn, 1) := by decide +kernel
theorem dX5_count_50 : decode cX5_count 50 = .ok (.aload_n 0, 1) := by decide +kernel
theorem dX5_count_51 : decode cX5_count 51 = .ok (.getfield 51, 3) := by decide +kernel
theorem dX5_count_54 : decode cX5_count 54 = .ok (.ireturn, 1) := by decide +kernel
theorem dX5_count_55 : decode cX5_count 55 = .ok (.new 66, 3) := by decide +kernel
theorem dX5_count_58 : decode cX5_count 58 = .ok (.dup, 1) := by decide +kernel
theorem dX5_count_59 : decode cX5_count 59 = .ok (.ldc 208, 2) := by decide +kernel
theorem dX5_count_61 : decode cX5_count 61 = .ok (.invokespecial 70, 3) := by decide +kernel
theorem dX5_count_64 : decode cX5_count 64 = .ok (.athrow, 1) := by decide +kernel
theorem dX5_define_0 : decode cX5_define 0 = .ok (.aload_n 0, 1) := by decide +kernel
theorem dX5_define_1 : decode cX5_define 1 = .ok (.invokevirtual 55, 3) := by decide +kernel
theorem dX5_define_4 : decode cX5_define 4 = .ok (.aload_n 0, 1) := by decide +kernel
theorem dX5_define_5 : decode cX5_define 5 = .ok (.iload_n 1, 1) := by decide +kernel
theorem dX5_define_6 : decode cX5_define 6 = .ok (.invokevirtual 88, 3) := by decide +kernel
theorem dX5_function_0 : decode cX5_function 0 = .ok (.aload_n 0, 1) := by decide +kernel
theorem dX5_function_1 : decode cX5_function 1 = .ok (.invokevirtual 55, 3) := by decide +kernel
theorem dX5_function_10 : decode cX5_function 10 = .ok (.if_icmp .le 13, 3) := by decide +kernel
theorem dX5_function_13 : decode cX5_function 13 = .ok (.new 66, 3) := by decide +kernel
theorem dX5_function_16 : decode cX5_function 16 = .ok (.dup, 1) := by decide +kernel
theorem dX5_function_17 : decode cX5_function 17 = .ok (.ldc 76, 2) := by decide +kernel
theorem dX5_function_19 : decode cX5_function 19 = .ok (.invokespecial 70, 3) := by decide +kernel
theorem dX5_function_22 : decode cX5_function 22 = .ok (.athrow, 1) := by decide +kernel
theorem dX5_function_23 : decode cX5_function 23 = .ok (.aload_n 0, 1) := by decide +kernel
theorem dX5_function_24 : decode cX5_function 24 = .ok (.iload_n 2, 1) := by decide +kernel
theorem dX5_function_25 : decode cX5_function 25 = .ok (.invokevirtual 78, 3) := by decide +kernel
theorem dX5_function_28 : decode cX5_function 28 = .ok (.aload_n 0, 1) := by decide +kernel
theorem dX5_function_29 : decode cX5_function 29 = .ok (.iload_n 3, 1) := by decide +kernel
theorem dX5_function_30 : decode cX5_function 30 = .ok (.invokevirtual 81, 3) := by decide +kernel
theorem dX5_function_33 : decode cX5_function 33 = .ok (.aload_n 0, 1) := by decide +kernel
theorem dX5_function_34 : decode cX5_function 34 = .ok (.getfield 12, 3) := by decide +kernel
theorem dX5_function_37 : decode cX5_function 37 = .ok (.iload_n 1, 1) := by decide +kernel
theorem dX5_function_38 : decode cX5_function 38 = .ok (.iload_n 2, 1) := by decide +kernel
theorem dX5_function_39 : decode cX5_function 39 = .ok (.iload_n 3, 1) := by decide +kernel
theorem dX5_function_4 : decode cX5_function 4 = .ok (.iload_n 1, 1) := by decide +kernel
theorem dX5_function_40 : decode cX5_function 40 = .ok (.invokevirtual 84, 3) := by decide +kernel
theorem dX5_function_43 : decode cX5_function 43 = .ok (.ireturn, 1) := by decide +kernel
theorem dX5_function_5 : decode cX5_function 5 = .ok (.ifCond .lt 8, 3) := by decide +kernel
theorem dX5_function_8 : decode cX5_function 8 = .ok (.iload_n 1, 1) := by decide +kernel
theorem dX5_function_9 : decode cX5_function 9 = .ok (.iconst 5, 1) := by decide +kernel
theorem dX5_get_0 : decode cX5_get 0 = .ok (.aload_n 0, 1) := by decide +kernel
theorem dX5_get_1 : decode cX5_get 1 = .ok (.invokevirtual 55, 3) := by decide +kernel
theorem dX5_get_4 : decode cX5_get 4 = .ok (.aload_n 0, 1) := by decide +kernel
theorem dX5_get_5 : decode cX5_get 5 = .ok (.iload_n 1, 1) := by decide +kernel
theorem dX5_get_6 : decode cX5_get 6 = .ok (.invokevirtual 88, 3) := by decide +kernel
theorem dX5_has_0 : decode cX5_has 0 = .ok (.aload_n 0, 1) := by decide +kernel
theorem dX5_has_1 : decode cX5_has 1 = .ok (.invokevirtual 55, 3) := by decide +kernel
theorem dX5_has_4 : decode cX5_has 4 = .ok (.aload_n 0, 1) := by decide +kernel
theorem dX5_has_5 : decode cX5_has 5 = .ok (.iload_n 1, 1) := by decide +kernel
theorem dX5_has_6 : decode cX5_has 6 = .ok (.invokevirtual 88, 3) := by decide +kernel
theorem dX5_init_0 : decode cX5_init 0 = .ok (.aload_n 0, 1) := by decide +kernel
theorem dX5_init_1 : decode cX5_init 1 = .ok (.invokespecial 3, 3) := by decide +kernel
theorem dX5_init_12 : decode cX5_init 12 = .ok (.putfield 12, 3) := by decide +kernel
theorem dX5_init_15 : decode cX5_init 15 = .ok (.aload_n 0, 1) := by decide +kernel
theorem dX5_init_16 : decode cX5_init 16 = .ok (.new 16, 3) := by decide +kernel
theorem dX5_init_19 : decode cX5_init 19 = .ok (.dup, 1) := by decide +kernel
theorem dX5_init_20 : decode cX5_init 20 = .ok (.invokespecial 18, 3) := by decide +kernel
theorem dX5_init_23 : decode cX5_init 23 = .ok (.putfield 19, 3) := by decide +kernel
theorem dX5_init_26 : decode cX5_init 26 = .ok (.aload_n 0, 1) := by decide +kernel
theorem dX5_init_27 : decode cX5_init 27 = .ok (.new 23, 3) := by decide +kernel
theorem dX5_init_30 : decode cX5_init 30 = .ok (.dup, 1) := by decide +kernel
theorem dX5_init_31 : decode cX5_init 31 = .ok (.invokespecial 25, 3) := by decide +kernel
theorem dX5_init_34 : decode cX5_init 34 = .ok (.putfield 26, 3) := by decide +kernel
theorem dX5_init_37 : decode cX5_init 37 = .ok (.aload_n 0, 1) := by decide +kernel
theorem dX5_init_38 : decode cX5_init 38 = .ok (.new 30, 3) := by decide +kernel
theorem dX5_init_4 : decode cX5_init 4 = .ok (.aload_n 0, 1) := by decide +kernel
theorem dX5_init_41 : decode cX5_init 41 = .ok (.dup, 1) := by decide +kernel
theorem dX5_init_42 : decode cX5_init 42 = .ok (.invokespecial 32, 3) := by decide +kernel
theorem dX5_init_45 : decode cX5_init 45 = .ok (.putfield 33, 3) := by decide +kernel
theorem dX5_init_48 : decode cX5_init 48 = .ok (.aload_n 0, 1) := by decide +kernel
theorem dX5_init_49 : decode cX5_init 49 = .ok (.new 37, 3) := by decide +kernel
theorem dX5_init_5 : decode cX5_init 5 = .ok (.new 9, 3) := by decide +kernel
theorem dX5_init_52 : decode cX5_init 52 = .ok (.dup, 1) := by decide +kernel
theorem dX5_init_53 : decode cX5_init 53 = .ok (.invokespecial 39, 3) := by decide +kernel
theorem dX5_init_56 : decode cX5_init 56 = .ok (.putfield 40, 3) := by decide +kernel
theorem dX5_init_59 : decode cX5_init 59 = .ok (.aload_n 0, 1) := by decide +kernel
theorem dX5_init_60 : decode cX5_init 60 = .ok (.sipush 250, 3) := by decide +kernel
theorem dX5_init_63 : decode cX5_init 63 = .ok (.newarray .int, 2) := by decide +kernel
theorem dX5_init_65 : decode cX5_init 65 = .ok (.putfield 44, 3) := by decide +kernel
theorem dX5_init_68 : decode cX5_init 68 = .ok (.aload_n 0, 1) := by decide +kernel
theorem dX5_init_69 : decode cX5_init 69 = .ok (.sipush 2000, 3) := by decide +kernel
theorem dX5_init_72 : decode cX5_init 72 = .ok (.newarray .int, 2) := by decide +kernel
theorem dX5_init_74 : decode cX5_init 74 = .ok (.putfield 48, 3) := by decide +kernel
theorem dX5_init_77 : decode cX5_init 77 = .ok (.aload_n 0, 1) := by decide +kernel
theorem dX5_init_78 : decode cX5_init 78 = .ok (.iconst (-1), 1) := by decide +kernel
theorem dX5_init_79 : decode cX5_init 79 = .ok (.putfield 51, 3) := by decide +kernel
theorem dX5_init_8 : decode cX5_init 8 = .ok (.dup, 1) := by decide +kernel
theorem dX5_init_82 : decode cX5_init 82 = .ok (.return_, 1) := by decide +kernel
theorem dX5_init_9 : decode cX5_init 9 = .ok (.invokespecial 11, 3) := by decide +kernel
theorem dX5_key_0 : decode cX5_key 0 = .ok (.iload_n 1, 1) := by decide +kernel
theorem dX5_key_1 : decode cX5_key 1 = .ok (.ifCond .lt 20, 3) := by decide +kernel
theorem dX5_key_21 : decode cX5_key 21 = .ok (.new 175, 3) := by decide +kernel
theorem dX5_key_24 : decode cX5_key 24 = .ok (.dup, 1) := by decide +kernel
theorem dX5_key_25 : decode cX5_key 25 = .ok (.ldc 177, 2) := by decide +kernel
theorem dX5_key_27 : decode cX5_key 27 = .ok (.invokespecial 179, 3) := by decide +kernel
theorem dX5_key_30 : decode cX5_key 30 = .ok (.athrow, 1) := by decide +kernel
theorem dX5_key_4 : decode cX5_key 4 = .ok (.iload_n 1, 1) := by decide +kernel
theorem dX5_key_5 : decode cX5_key 5 = .ok (.aload_n 0, 1) := by decide +kernel
theorem dX5_key_6 : decode cX5_key 6 = .ok (.getfield 172, 3) := by decide +kernel
theorem dX5_key_9 : decode cX5_key 9 = .ok (.if_icmp .ge 12, 3) := by decide +kernel
theorem dX5_keys_0 : decode cX5_keys 0 = .ok (.aload_n 0, 1) := by decide +kernel
theorem dX5_keys_1 : decode cX5_keys 1 = .ok (.invokevirtual 55, 3) := by decide +kernel
theorem dX5_keys_4 : decode cX5_keys 4 = .ok (.aload_n 0, 1) := by decide +kernel
theorem dX5_keys_5 : decode cX5_keys 5 = .ok (.iload_n 1, 1) := by decide +kernel
theorem dX5_keys_6 : decode cX5_keys 6 = .ok (.invokevirtual 88, 3) := by decide +kernel
theorem dX5_level_0 : decode cX5_level 0 = .ok (.aload_n 0, 1) := by decide +kernel
theorem dX5_level_1 : decode cX5_level 1 = .ok (.invokevirtual 55, 3) := by decide +kernel
theorem dX5_level_4 : decode cX5_level 4 = .ok (.aload_n 0, 1) := by decide +kernel
theorem dX5_level_5 : decode cX5_level 5 = .ok (.iload_n 1, 1) := by decide +kernel
theorem dX5_level_6 : decode cX5_level 6 = .ok (.invokevirtual 88, 3) := by decide +kernel
theorem dX5_make_0 : decode cX5_make 0 = .ok (.aload_n 0, 1) := by decide +kernel
theorem dX5_make_1 : decode cX5_make 1 = .ok (.invokevirtual 55, 3) := by decide +kernel
theorem dX5_make_10 : decode cX5_make 10 = .ok (.getfield 12, 3) := by decide +kernel
theorem dX5_make_13 : decode cX5_make 13 = .ok (.iload_n 1, 1) := by decide +kernel
theorem dX5_make_14 : decode cX5_make 14 = .ok (.invokevirtual 62, 3) := by decide +kernel
theorem dX5_make_17 : decode cX5_make 17 = .ok (.ireturn, 1) := by decide +kernel
theorem dX5_make_4 : decode cX5_make 4 = .ok (.aload_n 0, 1) := by decide +kernel
theorem dX5_make_5 : decode cX5_make 5 = .ok (.iload_n 1, 1) := by decide +kernel
theorem dX5_make_6 : decode cX5_make 6 = .ok (.invokevirtual 58, 3) := by decide +kernel
theorem dX5_make_9 : decode cX5_make 9 = .ok (.aload_n 0, 1) := by decide +kernel
theorem dX5_open_0 : decode cX5_open 0 = .ok (.aload_n 0, 1) := by decide +kernel
theorem dX5_open_1 : decode cX5_open 1 = .ok (.invokevirtual 55, 3) := by decide +kernel
theorem dX5_open_4 : decode cX5_open 4 = .ok (.aload_n 0, 1) := by decide +kernel
theorem dX5_open_5 : decode cX5_open 5 = .ok (.iload_n 1, 1) := by decide +kernel
theorem dX5_open_6 : decode cX5_open 6 = .ok (.invokevirtual 88, 3) := by decide +kernel
theorem dX5_parent_0 : decode cX5_parent 0 = .ok (.aload_n 0, 1) := by decide +kernel
theorem dX5_parent_1 : decode cX5_parent 1 = .ok (.invokevirtual 55, 3) := by decide +kernel
theorem dX5_parent_4 : decode cX5_parent 4 = .ok (.aload_n 0, 1) := by decide +kernel
theorem dX5_parent_5 : decode cX5_parent 5 = .ok (.iload_n 1, 1) := by decide +kernel
theorem dX5_parent_6 : decode cX5_parent 6 = .ok (.invokevirtual 88, 3) := by decide +kernel
theorem dX5_proxy_0 : decode cX5_proxy 0 = .ok (.aload_n 0, 1) := by decide +kernel
theorem dX5_proxy_1 : decode cX5_proxy 1 = .ok (.invokevirtual 55, 3) := by decide +kernel
theorem dX5_proxy_4 : decode cX5_proxy 4 = .ok (.aload_n 0, 1) := by decide +kernel
theorem dX5_proxy_5 : decode cX5_proxy 5 = .ok (.iload_n 1, 1) := by decide +kernel
theorem dX5_proxy_6 : decode cX5_proxy 6 = .ok (.invokevirtual 88, 3) := by decide +kernel
theorem dX5_remove_0 : decode cX5_remove 0 = .ok (.aload_n 0, 1) := by decide +kernel
theorem dX5_remove_1 : decode cX5_remove 1 = .ok (.invokevirtual 55, 3) := by decide +kernel
theorem dX5_remove_4 : decode cX5_remove 4 = .ok (.aload_n 0, 1) := by decide +kernel
theorem dX5_remove_5 : decode cX5_remove 5 = .ok (.iload_n 1, 1) := by decide +kernel
theorem dX5_remove_6 : decode cX5_remove 6 = .ok (.invokevirtual 88, 3) := by decide +kernel
theorem dX5_requireKey_0 : decode cX5_requireKey 0 = .ok (.iload_n 1, 1) := by decide +kernel
theorem dX5_requireKey_1 : decode cX5_requireKey 1 = .ok (.ifCond .lt 10, 3) := by decide +kernel
theorem dX5_requireKey_11 : decode cX5_requireKey 11 = .ok (.new 66, 3) := by decide +kernel
theorem dX5_requireKey_14 : decode cX5_requireKey 14 = .ok (.dup, 1) := by decide +kernel
theorem dX5_requireKey_15 : decode cX5_requireKey 15 = .ok (.ldc 221, 2) := by decide +kernel
theorem dX5_requireKey_17 : decode cX5_requireKey 17 = .ok (.invokespecial 70, 3) := by decide +kernel
theorem dX5_requireKey_20 : decode cX5_requireKey 20 = .ok (.athrow, 1) := by decide +kernel
theorem dX5_requireKey_21 : decode cX5_requireKey 21 = .ok (.return_, 1) := by decide +kernel
theorem dX5_requireKey_4 : decode cX5_requireKey 4 = .ok (.iload_n 1, 1) := by decide +kernel
theorem dX5_requireKey_5 : decode cX5_requireKey 5 = .ok (.sipush 250, 3) := by decide +kernel
theorem dX5_requireKey_8 : decode cX5_requireKey 8 = .ok (.if_icmp .lt 13, 3) := by decide +kernel
theorem dX5_requireObject_0 : decode cX5_requireObject 0 = .ok (.aload_n 0, 1) := by decide +kernel
theorem dX5_requireObject_1 : decode cX5_requireObject 1 = .ok (.getfield 12, 3) := by decide +kernel
theorem dX5_requireObject_11 : decode cX5_requireObject 11 = .ok (.new 66, 3) := by decide +kernel
theorem dX5_requireObject_14 : decode cX5_requireObject 14 = .ok (.dup, 1) := by decide +kernel
theorem dX5_requireObject_15 : decode cX5_requireObject 15 = .ok (.ldc 219, 2) := by decide +kernel
theorem dX5_requireObject_17 : decode cX5_requireObject 17 = .ok (.invokespecial 70, 3) := by decide +kernel
theorem dX5_requireObject_20 : decode cX5_requireObject 20 = .ok (.athrow, 1) := by decide +kernel
theorem dX5_requireObject_4 : decode cX5_requireObject 4 = .ok (.iload_n 1, 1) := by decide +kernel
theorem dX5_requireObject_5 : decode cX5_requireObject 5 = .ok (.invokevirtual 216, 3) := by decide +kernel
theorem dX5_requireObject_8 : decode cX5_requireObject 8 = .ok (.ifCond .ne 13, 3) := by decide +kernel
theorem dX5_requirePrototype_0 : decode cX5_requirePrototype 0 = .ok (.iload_n 1, 1) := by decide +kernel
theorem dX5_requirePrototype_1 : decode cX5_requirePrototype 1 = .ok (.iconst (-1), 1) := by decide +kernel
theorem dX5_requirePrototype_10 : decode cX5_requirePrototype 10 = .ok (.return_, 1) := by decide +kernel
theorem dX5_requirePrototype_2 : decode cX5_requirePrototype 2 = .ok (.if_icmp .eq 8, 3) := by decide +kernel
theorem dX5_requirePrototype_5 : decode cX5_requirePrototype 5 = .ok (.aload_n 0, 1) := by decide +kernel
theorem dX5_requirePrototype_6 : decode cX5_requirePrototype 6 = .ok (.iload_n 1, 1) := by decide +kernel
theorem dX5_requirePrototype_7 : decode cX5_requirePrototype 7 = .ok (.invokevirtual 88, 3) := by decide +kernel
theorem dX5_requireValue_0 : decode cX5_requireValue 0 = .ok (.iload_n 1, 1) := by decide +kernel
theorem dX5_requireValue_1 : decode cX5_requireValue 1 = .ok (.iconst (-1), 1) := by decide +kernel
theorem dX5_requireValue_12 : decode cX5_requireValue 12 = .ok (.iconst 1, 1) := by decide +kernel
theorem dX5_requireValue_13 : decode cX5_requireValue 13 = .ok (.goto 4, 3) := by decide +kernel
theorem dX5_requireValue_16 : decode cX5_requireValue 16 = .ok (.iconst 0, 1) := by decide +kernel
theorem dX5_requireValue_17 : decode cX5_requireValue 17 = .ok (.istore_n 2, 1) := by decide +kernel
theorem dX5_requireValue_18 : decode cX5_requireValue 18 = .ok (.iload_n 2, 1) := by decide +kernel
theorem dX5_requireValue_19 : decode cX5_requireValue 19 = .ok (.ifCond .ne 24, 3) := by decide +kernel
theorem dX5_requireValue_2 : decode cX5_requireValue 2 = .ok (.if_icmp .lt 14, 3) := by decide +kernel
theorem dX5_requireValue_22 : decode cX5_requireValue 22 = .ok (.aload_n 0, 1) := by decide +kernel
theorem dX5_requireValue_23 : decode cX5_requireValue 23 = .ok (.getfield 12, 3) := by decide +kernel
theorem dX5_requireValue_26 : decode cX5_requireValue 26 = .ok (.iload_n 1, 1) := by decide +kernel
theorem dX5_requireValue_27 : decode cX5_requireValue 27 = .ok (.invokevirtual 216, 3) := by decide +kernel
theorem dX5_requireValue_30 : decode cX5_requireValue 30 = .ok (.ifCond .ne 13, 3) := by decide +kernel
theorem dX5_requireValue_33 : decode cX5_requireValue 33 = .ok (.new 66, 3) := by decide +kernel
theorem dX5_requireValue_36 : decode cX5_requireValue 36 = .ok (.dup, 1) := by decide +kernel
theorem dX5_requireValue_37 : decode cX5_requireValue 37 = .ok (.ldc 223, 2) := by decide +kernel
theorem dX5_requireValue_39 : decode cX5_requireValue 39 = .ok (.invokespecial 70, 3) := by decide +kernel
theorem dX5_requireValue_42 : decode cX5_requireValue 42 = .ok (.athrow, 1) := by decide +kernel
theorem dX5_requireValue_43 : decode cX5_requireValue 43 = .ok (.return_, 1) := by decide +kernel
theorem dX5_requireValue_5 : decode cX5_requireValue 5 = .ok (.iload_n 1, 1) := by decide +kernel
theorem dX5_requireValue_6 : decode cX5_requireValue 6 = .ok (.sipush 1250, 3) := by decide +kernel
theorem dX5_requireValue_9 : decode cX5_requireValue 9 = .ok (.if_icmp .ge 7, 3) := by decide +kernel
theorem dX5_revoke_0 : decode cX5_revoke 0 = .ok (.aload_n 0, 1) := by decide +kernel
theorem dX5_revoke_1 : decode cX5_revoke 1 = .ok (.invokevirtual 55, 3) := by decide +kernel
theorem dX5_revoke_12 : decode cX5_revoke 12 = .ok (.ifCond .ne 13, 3) := by decide +kernel
theorem dX5_revoke_15 : decode cX5_revoke 15 = .ok (.new 66, 3) := by decide +kernel
theorem dX5_revoke_18 : decode cX5_revoke 18 = .ok (.dup, 1) := by decide +kernel
theorem dX5_revoke_19 : decode cX5_revoke 19 = .ok (.ldc 99, 2) := by decide +kernel
theorem dX5_revoke_21 : decode cX5_revoke 21 = .ok (.invokespecial 70, 3) := by decide +kernel
theorem dX5_revoke_24 : decode cX5_revoke 24 = .ok (.athrow, 1) := by decide +kernel
theorem dX5_revoke_4 : decode cX5_revoke 4 = .ok (.aload_n 0, 1) := by decide +kernel
theorem dX5_revoke_5 : decode cX5_revoke 5 = .ok (.getfield 12, 3) := by decide +kernel
theorem dX5_revoke_8 : decode cX5_revoke 8 = .ok (.iload_n 1, 1) := by decide +kernel
theorem dX5_revoke_9 : decode cX5_revoke 9 = .ok (.invokevirtual 95, 3) := by decide +kernel
theorem dX5_setParent_0 : decode cX5_setParent 0 = .ok (.aload_n 0, 1) := by decide +kernel
theorem dX5_setParent_1 : decode cX5_setParent 1 = .ok (.invokevirtual 55, 3) := by decide +kernel
theorem dX5_setParent_4 : decode cX5_setParent 4 = .ok (.aload_n 0, 1) := by decide +kernel
theorem dX5_setParent_5 : decode cX5_setParent 5 = .ok (.iload_n 1, 1) := by decide +kernel
theorem dX5_setParent_6 : decode cX5_setParent 6 = .ok (.invokevirtual 88, 3) := by decide +kernel
theorem dX5_set_0 : decode cX5_set 0 = .ok (.aload_n 0, 1) := by decide +kernel
theorem dX5_set_1 : decode cX5_set 1 = .ok (.invokevirtual 55, 3) := by decide +kernel
theorem dX5_set_4 : decode cX5_set 4 = .ok (.aload_n 0, 1) := by decide +kernel
theorem dX5_set_5 : decode cX5_set 5 = .ok (.iload_n 1, 1) := by decide +kernel
theorem dX5_set_6 : decode cX5_set 6 = .ok (.invokevirtual 88, 3) := by decide +kernel
theorem dX5_shut_0 : decode cX5_shut 0 = .ok (.aload_n 0, 1) := by decide +kernel
theorem dX5_shut_1 : decode cX5_shut 1 = .ok (.invokevirtual 55, 3) := by decide +kernel
theorem dX5_shut_4 : decode cX5_shut 4 = .ok (.aload_n 0, 1) := by decide +kernel
theorem dX5_shut_5 : decode cX5_shut 5 = .ok (.iload_n 1, 1) := by decide +kernel
theorem dX5_shut_6 : decode cX5_shut 6 = .ok (.invokevirtual 88, 3) := by decide +kernel
end
section
set_option maxHeartbeats 4000000 in
set_option maxRecDepth 100000 in
theorem k0_init (l : Launch) (D : va_G) (C : Nat → ClassId) (b0 sz : Nat) (h0 : Nat) : Met l yX0_init (xw yX0_init cX0_init 1 none) ({ frames := 8, cells := 0, slots := 0, locals := 150 }) (xPc D C b0 [.ref h0] [(h0, .inr (0, [.int 0, .int 0, .int 0, .int 0, .int 0]))] sz) (va_Qv (fun u : xS => True) (xBw D (va_A [(h0, .inr (0, [.int 0, .int 0, .int 0, .int 0, .int 0]))] sz) (fun u => [(h0, .inr (0, [.int 0, .int 0, .int 0, .int 0, .int 0]))])) (va_A [(h0, .inr (0, [.int 0, .int 0, .int 0, .int 0, .int 0]))] sz)) 0 0 (va_A [(h0, .inr (0, [.int 0, .int 0, .int 0, .int 0, .int 0]))] sz) := by
  refine Met.ofW (cc := cX0_init) (maxL := 1) (ret := none) (by decide) rfl ?_
  intro p e s m args below meth c s₁ B hml hv
  obtain ⟨rfl, hsz, hP, hK, hD0, hE⟩ := hv
  have hx := B.exec
  have hb := B.bytes
  have hr := B.returns
  have ht : ∀ w ∈ xb, w.before _ s = true := fun w h => atoms_spec (ws := xw yX0_init cX0_init 1 none) B.pre w (List.mem_cons_of_mem _ h)
  have hown : s.vm.findClass RX0 = some m.cls := findClass_of_methodNamed B.named
  have hlocks := B.notSynchronized
  have hin : meth.name = "<init>" := (name_of_methodNamed B.named B.method).1
  subst hsz
  have hAb := x_Ab hD0 hE.1
  have hD := hD0.self (sz := s.heap.size)
  generalize hAe : va_A [(h0, .inr (0, [.int 0, .int 0, .int 0, .int 0, .int 0]))] s.heap.size = A at hD hAb ⊢
  have hA : ∀ q : Nat, s.heap.size ≤ q → A q := fun q h => by rw [← hAe]; exact Or.inr h
  have hS : va_S A s.heap s.heap [] := va_S.rf
  have hP : va_P D vwCl [(h0, .inr (0, [.int 0, .int 0, .int 0, .int 0, .int 0]))] s.heap := hP
  have hl := lv_entry ([.ref h0]) (n := 1) (Nat.le_of_ble_eq_true rfl)
  rw [lg_entry_eq]
  generalize (lg_sl ([.ref h0]) ++ List.replicate (1 - (lg_sl ([.ref h0])).length) Slot.unset).toArray = ls at hl ⊢
  have hl : lv_has ls 1 [(0, .ref h0)] := hl
  refine lv_aload_n hx hb dX0_init_0 rfl (lv_at hl 0 rfl) ?_
  refine W.objInit hx hb hown (ht _ m_203) (ht _ m_99) (ht _ m_100) rfl (by rw [hml]; exact hl.1) rfl dX0_init_1 (Nat.le_of_ble_eq_true rfl) (Nat.le_of_ble_eq_true rfl) ?_
  refine W.eq (g2 := F0 m 4 ls []) rfl ?_
  have hP9 := hP.sub (ws' := [(h0, .inr (0, [.int 0, .int 0, .int 0, .int 0, .int 0]))]) [0] rfl
  have hD9 := hD.sub (ws' := [(h0, .inr (0, [.int 0, .int 0, .int 0, .int 0, .int 0]))]) [0] (by decide) rfl
  refine W.widen (k := 0) (n := 0) (by decide) (by decide) ?_
  exact W.vret hx hb hr (fun t ht1 hW => ⟨⟨(xA [], xF []), rfl, by first | trivial | rfl | assumption | decide | (simp_all; done), by rw [ht1]; exact hP9, hD9⟩, hS.F ht1⟩) hS.2.2 dX0_init_4
set_option maxHeartbeats 4000000 in
set_option maxRecDepth 100000 in
theorem k2_init (l : Launch) (D : va_G) (C : Nat → ClassId) (b0 sz : Nat) (h0 : Nat) : Met l yX2_init (xw yX2_init cX2_init 1 none) ({ frames := 8, cells := 2, slots := 10541, locals := 150 }) (xPc D C b0 [.ref h0] [(h0, .inr (2, [.null, .null, .int 0]))] sz) (va_Qv (fun u : xS => True) (xBw D (va_A [(h0, .inr (2, [.null, .null, .int 0]))] sz) (fun u => [(h0, .inr (2, [.ref (u.1 0), .ref (u.1 1), .int 0]))])) (va_A [(h0, .inr (2, [.null, .null, .int 0]))] sz)) 2 10541 (va_A [(h0, .inr (2, [.null, .null, .int 0]))] sz) := by
  refine Met.ofW (cc := cX2_init) (maxL := 1) (ret := none) (by decide) rfl ?_
  intro p e s m args below meth c s₁ B hml hv
  obtain ⟨rfl, hsz, hP, hK, hD0, hE⟩ := hv
  have hx := B.exec
  have hb := B.bytes
  have hr := B.returns
  have ht : ∀ w ∈ xb, w.before _ s = true := fun w h => atoms_spec (ws := xw yX2_init cX2_init 1 none) B.pre w (List.mem_cons_of_mem _ h)
  have hown : s.vm.findClass RX2 = some m.cls := findClass_of_methodNamed B.named
  have hlocks := B.notSynchronized
  have hin : meth.name = "<init>" := (name_of_methodNamed B.named B.method).1
  subst hsz
  have hAb := x_Ab hD0 hE.1
  have hD := hD0.self (sz := s.heap.size)
  generalize hAe : va_A [(h0, .inr (2, [.null, .null, .int 0]))] s.heap.size = A at hD hAb ⊢
  have hA : ∀ q : Nat, s.heap.size ≤ q → A q := fun q h => by rw [← hAe]; exact Or.inr h
  have hS : va_S A s.heap s.heap [] := va_S.rf
  have hP : va_P D vwCl [(h0, .inr (2, [.null, .null, .int 0]))] s.heap := hP
  have hl := lv_entry ([.ref h0]) (n := 1) (Nat.le_of_ble_eq_true rfl)
  rw [lg_entry_eq]
  generalize (lg_sl ([.ref h0]) ++ List.replicate (1 - (lg_sl ([.ref h0])).length) Slot.unset).toArray = ls at hl ⊢
  have hl : lv_has ls 1 [(0, .ref h0)] := hl
  refine lv_aload_n hx hb dX2_init_0 rfl (lv_at hl 0 rfl) ?_
  refine W.objInit hx hb hown (ht _ m_204) (ht _ m_99) (ht _ m_100) rfl (by rw [hml]; exact hl.1) rfl dX2_init_1 (Nat.le_of_ble_eq_true rfl) (Nat.le_of_ble_eq_true rfl) ?_
  refine W.eq (g2 := F0 m 4 ls []) rfl ?_
  refine lv_aload_n hx hb dX2_init_4 rfl (lv_at hl 0 rfl) ?_
  refine lv_sipush (v := 10291) hx hb dX2_init_5 (by decide) ?_
  refine va_newa (atype := .int) (ty := .int) (N' := 10291) (a0 := (10291, .inl (fun _ => 0))) hx hb (ht _ m_205) rfl hK hP hD hS hA (fun _ => rfl) (by decide) (by decide) (by decide) (by decide) (by decide) dX2_init_8 (fun q_1 cA H hK9 hP hD hS => ?_)
  obtain rfl := x_tyI hK9
  refine W.widen (k := 1) (n := 10291) (by decide) (by decide) ?_
  have hP : va_P D vwCl [(h0, .inr (2, [.null, .null, .int 0])), (q_1, .inl (C 0, 10291, .inl (fun _ => 0)))] H := hP
  have hD : va_D A [(h0, .inr (2, [.null, .null, .int 0])), (q_1, .inl (C 0, 10291, .inl (fun _ => 0)))] := hD
  refine va_putF (D := D) (ci := 2) (v := .ref q_1) (ty := tyX2 0) (C := RX2) (T := TX2) (N := 3) hx hb ht inX2 tyX2 tyX2_ok nmX2 hown hK hP hD hS 0 rfl rfl 0 (by decide) (ht _ m_206) (fun _ h9 => h9) rfl hin rfl (by decide +kernel) rfl rfl (Nat.le_of_ble_eq_true rfl) dX2_init_10 (fun H locs hP hD hS => ?_)
  have hP : va_P D vwCl [(h0, .inr (2, [.ref q_1, .null, .int 0])), (q_1, .inl (C 0, 10291, .inl (fun _ => 0)))] H := hP
  have hD : va_D A [(h0, .inr (2, [.ref q_1, .null, .int 0])), (q_1, .inl (C 0, 10291, .inl (fun _ => 0)))] := hD
  refine lv_aload_n hx hb dX2_init_13 rfl (lv_at hl 0 rfl) ?_
  refine lv_sipush (v := 250) hx hb dX2_init_14 (by decide) ?_
  refine va_newa (atype := .int) (ty := .int) (N' := 250) (a0 := (250, .inl (fun _ => 0))) hx hb (ht _ m_205) rfl hK hP hD hS hA (fun _ => rfl) (by decide) (by decide) (by decide) (by decide) (by decide) dX2_init_17 (fun q_2 cA H hK9 hP hD hS => ?_)
  obtain rfl := x_tyI hK9
  refine W.widen (k := 2) (n := 10541) (by decide) (by decide) ?_
  have hP : va_P D vwCl [(h0, .inr (2, [.ref q_1, .null, .int 0])), (q_1, .inl (C 0, 10291, .inl (fun _ => 0))), (q_2, .inl (C 0, 250, .inl (fun _ => 0)))] H := hP
  have hD : va_D A [(h0, .inr (2, [.ref q_1, .null, .int 0])), (q_1, .inl (C 0, 10291, .inl (fun _ => 0))), (q_2, .inl (C 0, 250, .inl (fun _ => 0)))] := hD
  refine va_putF (D := D) (ci := 2) (v := .ref q_2) (ty := tyX2 1) (C := RX2) (T := TX2) (N := 3) hx hb ht inX2 tyX2 tyX2_ok nmX2 hown hK hP hD hS 0 rfl rfl 1 (by decide) (ht _ m_207) (fun _ h9 => h9) rfl hin rfl (by decide +kernel) rfl rfl (Nat.le_of_ble_eq_true rfl) dX2_init_19 (fun H locs hP hD hS => ?_)
  have hP : va_P D vwCl [(h0, .inr (2, [.ref q_1, .ref q_2, .int 0])), (q_1, .inl (C 0, 10291, .inl (fun _ => 0))), (q_2, .inl (C 0, 250, .inl (fun _ => 0)))] H := hP
  have hD : va_D A [(h0, .inr (2, [.ref q_1, .ref q_2, .int 0])), (q_1, .inl (C 0, 10291, .inl (fun _ => 0))), (q_2, .inl (C 0, 250, .inl (fun _ => 0)))] := hD
  have hP9 := hP.sub (ws' := [(h0, .inr (2, [.ref q_1, .ref q_2, .int 0]))]) [0] rfl
  have hD9 := hD.sub (ws' := [(h0, .inr (2, [.ref q_1, .ref q_2, .int 0]))]) [0] (by decide) rfl
  refine W.widen (k := 2) (n := 10541) (by decide) (by decide) ?_
  exact W.vret hx hb hr (fun t ht1 hW => ⟨⟨(xA [q_1, q_2], xF []), rfl, by first | trivial | rfl | assumption | decide | (simp_all; done), by rw [ht1]; exact hP9, hD9⟩, hS.F ht1⟩) hS.2.2 dX2_init_22
set_option maxHeartbeats 4000000 in
set_option maxRecDepth 100000 in
theorem k4_init (l : Launch) (D : va_G) (C : Nat → ClassId) (b0 sz : Nat) (h0 : Nat) : Met l yX4_init (xw yX4_init cX4_init 1 none) ({ frames := 8, cells := 2, slots := 1200, locals := 150 }) (xPc D C b0 [.ref h0] [(h0, .inr (4, [.null, .null, .int 0]))] sz) (va_Qv (fun u : xS => True) (xBw D (va_A [(h0, .inr (4, [.null, .null, .int 0]))] sz) (fun u => [(h0, .inr (4, [.ref (u.1 0), .ref (u.1 1), .int 1]))])) (va_A [(h0, .inr (4, [.null, .null, .int 0]))] sz)) 2 1200 (va_A [(h0, .inr (4, [.null, .null, .int 0]))] sz) := by
  refine Met.ofW (cc := cX4_init) (maxL := 1) (ret := none) (by decide) rfl ?_
  intro p e s m args below meth c s₁ B hml hv
  obtain ⟨rfl, hsz, hP, hK, hD0, hE⟩ := hv
  have hx := B.exec
  have hb := B.bytes
  have hr := B.returns
  have ht : ∀ w ∈ xb, w.before _ s = true := fun w h => atoms_spec (ws := xw yX4_init cX4_init 1 none) B.pre w (List.mem_cons_of_mem _ h)
  have hown : s.vm.findClass RX4 = some m.cls := findClass_of_methodNamed B.named
  have hlocks := B.notSynchronized
  have hin : meth.name = "<init>" := (name_of_methodNamed B.named B.method).1
  subst hsz
  have hAb := x_Ab hD0 hE.1
  have hD := hD0.self (sz := s.heap.size)
  generalize hAe : va_A [(h0, .inr (4, [.null, .null, .int 0]))] s.heap.size = A at hD hAb ⊢
  have hA : ∀ q : Nat, s.heap.size ≤ q → A q := fun q h => by rw [← hAe]; exact Or.inr h
  have hS : va_S A s.heap s.heap [] := va_S.rf
  have hP : va_P D vwCl [(h0, .inr (4, [.null, .null, .int 0]))] s.heap := hP
  have hl := lv_entry ([.ref h0]) (n := 1) (Nat.le_of_ble_eq_true rfl)
  rw [lg_entry_eq]
  generalize (lg_sl ([.ref h0]) ++ List.replicate (1 - (lg_sl ([.ref h0])).length) Slot.unset).toArray = ls at hl ⊢
  have hl : lv_has ls 1 [(0, .ref h0)] := hl
  refine lv_aload_n hx hb dX4_init_0 rfl (lv_at hl 0 rfl) ?_
  refine W.objInit hx hb hown (ht _ m_208) (ht _ m_99) (ht _ m_100) rfl (by rw [hml]; exact hl.1) rfl dX4_init_1 (Nat.le_of_ble_eq_true rfl) (Nat.le_of_ble_eq_true rfl) ?_
  refine W.eq (g2 := F0 m 4 ls []) rfl ?_
  refine lv_aload_n hx hb dX4_init_4 rfl (lv_at hl 0 rfl) ?_
  refine lv_sipush (v := 600) hx hb dX4_init_5 (by decide) ?_
  refine va_newa (atype := .int) (ty := .int) (N' := 600) (a0 := (600, .inl (fun _ => 0))) hx hb (ht _ m_205) rfl hK hP hD hS hA (fun _ => rfl) (by decide) (by decide) (by decide) (by decide) (by decide) dX4_init_8 (fun q_1 cA H hK9 hP hD hS => ?_)
  obtain rfl := x_tyI hK9
  refine W.widen (k := 1) (n := 600) (by decide) (by decide) ?_
  have hP : va_P D vwCl [(h0, .inr (4, [.null, .null, .int 0])), (q_1, .inl (C 0, 600, .inl (fun _ => 0)))] H := hP
  have hD : va_D A [(h0, .inr (4, [.null, .null, .int 0])), (q_1, .inl (C 0, 600, .inl (fun _ => 0)))] := hD
  refine va_putF (D := D) (ci := 4) (v := .ref q_1) (ty := tyX4 0) (C := RX4) (T := TX4) (N := 3) hx hb ht inX4 tyX4 tyX4_ok nmX4 hown hK hP hD hS 0 rfl rfl 0 (by decide) (ht _ m_209) (fun _ h9 => h9) rfl hin rfl (by decide +kernel) rfl rfl (Nat.le_of_ble_eq_true rfl) dX4_init_10 (fun H locs hP hD hS => ?_)
  have hP : va_P D vwCl [(h0, .inr (4, [.ref q_1, .null, .int 0])), (q_1, .inl (C 0, 600, .inl (fun _ => 0)))] H := hP
  have hD : va_D A [(h0, .inr (4, [.ref q_1, .null, .int 0])), (q_1, .inl (C 0, 600, .inl (fun _ => 0)))] := hD
  refine lv_aload_n hx hb dX4_init_13 rfl (lv_at hl 0 rfl) ?_
  refine lv_sipush (v := 600) hx hb dX4_init_14 (by decide) ?_
  refine va_newa (atype := .int) (ty := .int) (N' := 600) (a0 := (600, .inl (fun _ => 0))) hx hb (ht _ m_205) rfl hK hP hD hS hA (fun _ => rfl) (by decide) (by decide) (by decide) (by decide) (by decide) dX4_init_17 (fun q_2 cA H hK9 hP hD hS => ?_)
  obtain rfl := x_tyI hK9
  refine W.widen (k := 2) (n := 1200) (by decide) (by decide) ?_
  have hP : va_P D vwCl [(h0, .inr (4, [.ref q_1, .null, .int 0])), (q_1, .inl (C 0, 600, .inl (fun _ => 0))), (q_2, .inl (C 0, 600, .inl (fun _ => 0)))] H := hP
  have hD : va_D A [(h0, .inr (4, [.ref q_1, .null, .int 0])), (q_1, .inl (C 0, 600, .inl (fun _ => 0))), (q_2, .inl (C 0, 600, .inl (fun _ => 0)))] := hD
  refine va_putF (D := D) (ci := 4) (v := .ref q_2) (ty := tyX4 1) (C := RX4) (T := TX4) (N := 3) hx hb ht inX4 tyX4 tyX4_ok nmX4 hown hK hP hD hS 0 rfl rfl 1 (by decide) (ht _ m_210) (fun _ h9 => h9) rfl hin rfl (by decide +kernel) rfl rfl (Nat.le_of_ble_eq_true rfl) dX4_init_19 (fun H locs hP hD hS => ?_)
  have hP : va_P D vwCl [(h0, .inr (4, [.ref q_1, .ref q_2, .int 0])), (q_1, .inl (C 0, 600, .inl (fun _ => 0))), (q_2, .inl (C 0, 600, .inl (fun _ => 0)))] H := hP
  have hD : va_D A [(h0, .inr (4, [.ref q_1, .ref q_2, .int 0])), (q_1, .inl (C 0, 600, .inl (fun _ => 0))), (q_2, .inl (C 0, 600, .inl (fun _ => 0)))] := hD
  refine lv_aload_n hx hb dX4_init_22 rfl (lv_at hl 0 rfl) ?_
  refine lv_iconst (v := 1) hx hb dX4_init_23 (by decide) ?_
  refine va_put (D := D) (ci := 4) (v := .int 1) (ty := tyX4 2) (C := RX4) (T := TX4) (N := 3) hx hb ht inX4 tyX4 tyX4_ok nmX4 hown hK hP hD hS 0 rfl rfl 2 (by decide) (ht _ m_211) (fun _ h9 => h9) rfl (by decide +kernel) rfl rfl (Nat.le_of_ble_eq_true rfl) dX4_init_24 (fun H locs hP hD hS => ?_)
  have hP : va_P D vwCl [(h0, .inr (4, [.ref q_1, .ref q_2, .int 1])), (q_1, .inl (C 0, 600, .inl (fun _ => 0))), (q_2, .inl (C 0, 600, .inl (fun _ => 0)))] H := hP
  have hD : va_D A [(h0, .inr (4, [.ref q_1, .ref q_2, .int 1])), (q_1, .inl (C 0, 600, .inl (fun _ => 0))), (q_2, .inl (C 0, 600, .inl (fun _ => 0)))] := hD
  have hP9 := hP.sub (ws' := [(h0, .inr (4, [.ref q_1, .ref q_2, .int 1]))]) [0] rfl
  have hD9 := hD.sub (ws' := [(h0, .inr (4, [.ref q_1, .ref q_2, .int 1]))]) [0] (by decide) rfl
  refine W.widen (k := 2) (n := 1200) (by decide) (by decide) ?_
  exact W.vret hx hb hr (fun t ht1 hW => ⟨⟨(xA [q_1, q_2], xF []), rfl, by first | trivial | rfl | assumption | decide | (simp_all; done), by rw [ht1]; exact hP9, hD9⟩, hS.F ht1⟩) hS.2.2 dX4_init_27
set_option maxHeartbeats 4000000 in
set_option maxRecDepth 100000 in
theorem k2_cutTo (l : Launch) (D : va_G) (C : Nat → ClassId) (b0 sz : Nat) (h0 : Nat) (x0 : Nat) (x1 : Nat) : Met l yX2_cutTo (xw yX2_cutTo cX2_cutTo 2 none) ({ frames := 8, cells := 0, slots := 0, locals := 150 }) (xPc D C b0 [.ref h0, .int 0] [(h0, .inr (2, [.ref x0, .ref x1, .int 0]))] sz) (va_Qv (fun u : xS => True) (xBw D (va_A [(h0, .inr (2, [.ref x0, .ref x1, .int 0]))] sz) (fun u => [(h0, .inr (2, [.ref x0, .ref x1, .int 0]))])) (va_A [(h0, .inr (2, [.ref x0, .ref x1, .int 0]))] sz)) 0 0 (va_A [(h0, .inr (2, [.ref x0, .ref x1, .int 0]))] sz) := by
  refine Met.ofW (cc := cX2_cutTo) (maxL := 2) (ret := none) (by decide) rfl ?_
  intro p e s m args below meth c s₁ B hml hv
  obtain ⟨rfl, hsz, hP, hK, hD0, hE⟩ := hv
  have hx := B.exec
  have hb := B.bytes
  have hr := B.returns
  have ht : ∀ w ∈ xb, w.before _ s = true := fun w h => atoms_spec (ws := xw yX2_cutTo cX2_cutTo 2 none) B.pre w (List.mem_cons_of_mem _ h)
  have hown : s.vm.findClass RX2 = some m.cls := findClass_of_methodNamed B.named
  have hlocks := B.notSynchronized
  subst hsz
  have hAb := x_Ab hD0 hE.1
  have hD := hD0.self (sz := s.heap.size)
  generalize hAe : va_A [(h0, .inr (2, [.ref x0, .ref x1, .int 0]))] s.heap.size = A at hD hAb ⊢
  have hA : ∀ q : Nat, s.heap.size ≤ q → A q := fun q h => by rw [← hAe]; exact Or.inr h
  have hS : va_S A s.heap s.heap [] := va_S.rf
  have hP : va_P D vwCl [(h0, .inr (2, [.ref x0, .ref x1, .int 0]))] s.heap := hP
  have hl := lv_entry ([.ref h0, .int 0]) (n := 2) (Nat.le_of_ble_eq_true rfl)
  rw [lg_entry_eq]
  generalize (lg_sl ([.ref h0, .int 0]) ++ List.replicate (2 - (lg_sl ([.ref h0, .int 0])).length) Slot.unset).toArray = ls at hl ⊢
  have hl : lv_has ls 2 [(0, .ref h0), (1, .int 0)] := hl
  refine lv_iload_n hx hb dX2_cutTo_0 rfl (lv_at hl 1 rfl) ?_
  refine lv_if_lt (tgt := 17) hx hb dX2_cutTo_1 (by decide) (fun c_1 => ?_) (fun c_1 => ?_)
  · exact absurd c_1 (by decide)
  refine lv_iload_n hx hb dX2_cutTo_4 rfl (lv_at hl 1 rfl) ?_
  refine lv_aload_n hx hb dX2_cutTo_5 rfl (lv_at hl 0 rfl) ?_
  refine va_get (D := D) (ci := 2) (v := .int 0) (C := RX2) (T := TX2) (N := 3) hx hb ht inX2 hown hK hP 0 rfl rfl 2 (by decide) (ht _ m_212) (fun _ h9 => h9) rfl dX2_cutTo_6 ?_
  refine lv_icmp_gt (tgt := 17) hx hb dX2_cutTo_9 (by decide) (fun c_9 => ?_) (fun c_9 => ?_)
  · exact absurd c_9 (by decide)
  refine lv_aload_n hx hb dX2_cutTo_12 rfl (lv_at hl 0 rfl) ?_
  refine lv_iload_n hx hb dX2_cutTo_13 rfl (lv_at hl 1 rfl) ?_
  refine va_put (D := D) (ci := 2) (v := .int 0) (ty := tyX2 2) (C := RX2) (T := TX2) (N := 3) hx hb ht inX2 tyX2 tyX2_ok nmX2 hown hK hP hD hS 0 rfl rfl 2 (by decide) (ht _ m_212) (fun _ h9 => h9) rfl (by decide +kernel) rfl rfl (Nat.le_of_ble_eq_true rfl) dX2_cutTo_14 (fun H locs hP hD hS => ?_)
  have hP : va_P D vwCl [(h0, .inr (2, [.ref x0, .ref x1, .int 0]))] H := hP
  have hD : va_D A [(h0, .inr (2, [.ref x0, .ref x1, .int 0]))] := hD
  have hP9 := hP.sub (ws' := [(h0, .inr (2, [.ref x0, .ref x1, .int 0]))]) [0] rfl
  have hD9 := hD.sub (ws' := [(h0, .inr (2, [.ref x0, .ref x1, .int 0]))]) [0] (by decide) rfl
  refine W.widen (k := 0) (n := 0) (by decide) (by decide) ?_
  exact W.vret hx hb hr (fun t ht1 hW => ⟨⟨(xA [], xF []), rfl, by first | trivial | rfl | assumption | decide | (simp_all; done), by rw [ht1]; exact hP9, hD9⟩, hS.F ht1⟩) hS.2.2 dX2_cutTo_17
set_option maxHeartbeats 4000000 in
set_option maxRecDepth 100000 in
theorem k4_forget (l : Launch) (D : va_G) (C : Nat → ClassId) (b0 sz : Nat) (h0 : Nat) (x0 : Nat) (x1 : Nat) : Met l yX4_forget (xw yX4_forget cX4_forget 1 none) ({ frames := 8, cells := 0, slots := 0, locals := 150 }) (xPc D C b0 [.ref h0] [(h0, .inr (4, [.ref x0, .ref x1, .int 1]))] sz) (va_Qv (fun u : xS => True) (xBw D (va_A [(h0, .inr (4, [.ref x0, .ref x1, .int 1]))] sz) (fun u => [(h0, .inr (4, [.ref x0, .ref x1, .int 2]))])) (va_A [(h0, .inr (4, [.ref x0, .ref x1, .int 1]))] sz)) 0 0 (va_A [(h0, .inr (4, [.ref x0, .ref x1, .int 1]))] sz) := by
  refine Met.ofW (cc := cX4_forget) (maxL := 1) (ret := none) (by decide) rfl ?_
  intro p e s m args below meth c s₁ B hml hv
  obtain ⟨rfl, hsz, hP, hK, hD0, hE⟩ := hv
  have hx := B.exec
  have hb := B.bytes
  have hr := B.returns
  have ht : ∀ w ∈ xb, w.before _ s = true := fun w h => atoms_spec (ws := xw yX4_forget cX4_forget 1 none) B.pre w (List.mem_cons_of_mem _ h)
  have hown : s.vm.findClass RX4 = some m.cls := findClass_of_methodNamed B.named
  have hlocks := B.notSynchronized
  subst hsz
  have hAb := x_Ab hD0 hE.1
  have hD := hD0.self (sz := s.heap.size)
  generalize hAe : va_A [(h0, .inr (4, [.ref x0, .ref x1, .int 1]))] s.heap.size = A at hD hAb ⊢
  have hA : ∀ q : Nat, s.heap.size ≤ q → A q := fun q h => by rw [← hAe]; exact Or.inr h
  have hS : va_S A s.heap s.heap [] := va_S.rf
  have hP : va_P D vwCl [(h0, .inr (4, [.ref x0, .ref x1, .int 1]))] s.heap := hP
  have hl := lv_entry ([.ref h0]) (n := 1) (Nat.le_of_ble_eq_true rfl)
  rw [lg_entry_eq]
  generalize (lg_sl ([.ref h0]) ++ List.replicate (1 - (lg_sl ([.ref h0])).length) Slot.unset).toArray = ls at hl ⊢
  have hl : lv_has ls 1 [(0, .ref h0)] := hl
  refine lv_aload_n hx hb dX4_forget_0 rfl (lv_at hl 0 rfl) ?_
  refine lv_dup hx hb dX4_forget_1 rfl ?_
  refine va_get (D := D) (ci := 4) (v := .int 1) (C := RX4) (T := TX4) (N := 3) hx hb ht inX4 hown hK hP 0 rfl rfl 2 (by decide) (ht _ m_211) (fun _ h9 => h9) rfl dX4_forget_2 ?_
  refine lv_iconst (v := 1) hx hb dX4_forget_5 (by decide) ?_
  refine lv_iadd hx hb dX4_forget_6 ?_
  refine lv_topi (fun x_1 ex_1 => ?_)
  obtain rfl : x_1 = (2 : Int32) := ex_1.trans (by decide)
  refine va_put (D := D) (ci := 4) (v := .int 2) (ty := tyX4 2) (C := RX4) (T := TX4) (N := 3) hx hb ht inX4 tyX4 tyX4_ok nmX4 hown hK hP hD hS 0 rfl rfl 2 (by decide) (ht _ m_211) (fun _ h9 => h9) rfl (by decide +kernel) rfl rfl (Nat.le_of_ble_eq_true rfl) dX4_forget_7 (fun H locs hP hD hS => ?_)
  have hP : va_P D vwCl [(h0, .inr (4, [.ref x0, .ref x1, .int 2]))] H := hP
  have hD : va_D A [(h0, .inr (4, [.ref x0, .ref x1, .int 2]))] := hD
  have hP9 := hP.sub (ws' := [(h0, .inr (4, [.ref x0, .ref x1, .int 2]))]) [0] rfl
  have hD9 := hD.sub (ws' := [(h0, .inr (4, [.ref x0, .ref x1, .int 2]))]) [0] (by decide) rfl
  refine W.widen (k := 0) (n := 0) (by decide) (by decide) ?_
  exact W.vret hx hb hr (fun t ht1 hW => ⟨⟨(xA [], xF []), rfl, by first | trivial | rfl | assumption | decide | (simp_all; done), by rw [ht1]; exact hP9, hD9⟩, hS.F ht1⟩) hS.2.2 dX4_forget_10
set_option maxHeartbeats 4000000 in
set_option maxRecDepth 100000 in
theorem k3_rowOf0 (l : Launch) (D : va_G) (C : Nat → ClassId) (b0 sz : Nat) (h0 : Nat) (a0 : Nat) (a1 : Nat) (a2 : Nat) (a3 : Nat) (a4 : Nat) (a5 : Nat) (a6 : Nat) (a7 : Nat) (a8 : Nat) (a9 : Nat) (a10 : Nat) (a11 : Nat) (v0 : Int32) : Met l yX3_rowOf (xw yX3_rowOf cX3_rowOf 3 (some .int)) ({ frames := 8, cells := 0, slots := 0, locals := 150 }) (xPc D C b0 [.ref h0, .int v0] [(h0, .inr (3, [.ref a0, .ref a1, .ref a2, .ref a3, .ref a4, .ref a5, .ref a6, .int 0, .ref a7, .ref a8, .ref a9, .ref a10, .ref a11, .int 0]))] sz) (va_Qi (fun (r : Int32) (u : xS) => r = -1) (xBw D (va_A [(h0, .inr (3, [.ref a0, .ref a1, .ref a2, .ref a3, .ref a4, .ref a5, .ref a6, .int 0, .ref a7, .ref a8, .ref a9, .ref a10, .ref a11, .int 0]))] sz) (fun u => [(h0, .inr (3, [.ref a0, .ref a1, .ref a2, .ref a3, .ref a4, .ref a5, .ref a6, .int 0, .ref a7, .ref a8, .ref a9, .ref a10, .ref a11, .int 0]))])) (va_A [(h0, .inr (3, [.ref a0, .ref a1, .ref a2, .ref a3, .ref a4, .ref a5, .ref a6, .int 0, .ref a7, .ref a8, .ref a9, .ref a10, .ref a11, .int 0]))] sz)) 0 0 (va_A [(h0, .inr (3, [.ref a0, .ref a1, .ref a2, .ref a3, .ref a4, .ref a5, .ref a6, .int 0, .ref a7, .ref a8, .ref a9, .ref a10, .ref a11, .int 0]))] sz) := by
  refine Met.ofW (cc := cX3_rowOf) (maxL := 3) (ret := (some .int)) (by decide) rfl ?_
  intro p e s m args below meth c s₁ B hml hv
  obtain ⟨rfl, hsz, hP, hK, hD0, hE⟩ := hv
  have hx := B.exec
  have hb := B.bytes
  have hr := B.returns
  have ht : ∀ w ∈ xb, w.before _ s = true := fun w h => atoms_spec (ws := xw yX3_rowOf cX3_rowOf 3 (some .int)) B.pre w (List.mem_cons_of_mem _ h)
  have hown : s.vm.findClass RX3 = some m.cls := findClass_of_methodNamed B.named
  have hlocks := B.notSynchronized
  subst hsz
  have hAb := x_Ab hD0 hE.1
  have hD := hD0.self (sz := s.heap.size)
  generalize hAe : va_A [(h0, .inr (3, [.ref a0, .ref a1, .ref a2, .ref a3, .ref a4, .ref a5, .ref a6, .int 0, .ref a7, .ref a8, .ref a9, .ref a10, .ref a11, .int 0]))] s.heap.size = A at hD hAb ⊢
  have hA : ∀ q : Nat, s.heap.size ≤ q → A q := fun q h => by rw [← hAe]; exact Or.inr h
  have hS : va_S A s.heap s.heap [] := va_S.rf
  have hP : va_P D vwCl [(h0, .inr (3, [.ref a0, .ref a1, .ref a2, .ref a3, .ref a4, .ref a5, .ref a6, .int 0, .ref a7, .ref a8, .ref a9, .ref a10, .ref a11, .int 0]))] s.heap := hP
  have hl := lv_entry ([.ref h0, .int v0]) (n := 3) (Nat.le_of_ble_eq_true rfl)
  rw [lg_entry_eq]
  generalize (lg_sl ([.ref h0, .int v0]) ++ List.replicate (3 - (lg_sl ([.ref h0, .int v0])).length) Slot.unset).toArray = ls at hl ⊢
  have hl : lv_has ls 3 [(0, .ref h0), (1, .int v0)] := hl
  refine lv_bipush (v := (-2)) hx hb dX3_rowOf_0 (by decide) ?_
  refine lv_iload_n hx hb dX3_rowOf_2 rfl (lv_at hl 1 rfl) ?_
  refine lv_isub hx hb dX3_rowOf_3 ?_
  refine lv_topi (fun x_1 ex_1 => ?_)
  refine lv_istore_n (lv' := [(2, .int x_1), (0, .ref h0), (1, .int v0)]) hx hb dX3_rowOf_4 rfl hl (by decide) rfl (fun ls hl => ?_)
  refine lv_iload_n hx hb dX3_rowOf_5 rfl (lv_at hl 0 rfl) ?_
  refine lv_if_lt (tgt := 28) hx hb dX3_rowOf_6 (by decide) (fun c_6 => ?_) (fun c_6 => ?_)
  · skip
    refine lv_iconst (v := (-1)) hx hb dX3_rowOf_28 (by decide) ?_
    have hP9 := hP.sub (ws' := [(h0, .inr (3, [.ref a0, .ref a1, .ref a2, .ref a3, .ref a4, .ref a5, .ref a6, .int 0, .ref a7, .ref a8, .ref a9, .ref a10, .ref a11, .int 0]))]) [0] rfl
    have hD9 := hD.sub (ws' := [(h0, .inr (3, [.ref a0, .ref a1, .ref a2, .ref a3, .ref a4, .ref a5, .ref a6, .int 0, .ref a7, .ref a8, .ref a9, .ref a10, .ref a11, .int 0]))]) [0] (by decide) rfl
    refine W.widen (k := 0) (n := 0) (by decide) (by decide) ?_
    exact W.iret (v := (-1)) hx hb hr (fun t ht1 hW => ⟨⟨(-1), (xA [], xF []), rfl, by first | trivial | rfl | assumption | decide | (simp_all; done), by rw [ht1]; exact hP9, hD9⟩, hS.F ht1⟩) hS.2.2 dX3_rowOf_29
  · skip
    refine lv_iload_n hx hb dX3_rowOf_9 rfl (lv_at hl 0 rfl) ?_
    refine lv_aload_n hx hb dX3_rowOf_10 rfl (lv_at hl 1 rfl) ?_
    refine va_get (D := D) (ci := 3) (v := .int 0) (C := RX3) (T := TX3) (N := 14) hx hb ht inX3 hown hK hP 0 rfl rfl 7 (by decide) (ht _ m_213) (fun _ h9 => h9) rfl dX3_rowOf_11 ?_
    refine lv_icmp_ge (tgt := 28) hx hb dX3_rowOf_14 (by decide) (fun c_14 => ?_) (fun c_14 => ?_)
    · skip
      refine lv_iconst (v := (-1)) hx hb dX3_rowOf_28 (by decide) ?_
      have hP9 := hP.sub (ws' := [(h0, .inr (3, [.ref a0, .ref a1, .ref a2, .ref a3, .ref a4, .ref a5, .ref a6, .int 0, .ref a7, .ref a8, .ref a9, .ref a10, .ref a11, .int 0]))]) [0] rfl
      have hD9 := hD.sub (ws' := [(h0, .inr (3, [.ref a0, .ref a1, .ref a2, .ref a3, .ref a4, .ref a5, .ref a6, .int 0, .ref a7, .ref a8, .ref a9, .ref a10, .ref a11, .int 0]))]) [0] (by decide) rfl
      refine W.widen (k := 0) (n := 0) (by decide) (by decide) ?_
      exact W.iret (v := (-1)) hx hb hr (fun t ht1 hW => ⟨⟨(-1), (xA [], xF []), rfl, by first | trivial | rfl | assumption | decide | (simp_all; done), by rw [ht1]; exact hP9, hD9⟩, hS.F ht1⟩) hS.2.2 dX3_rowOf_29
    · exact absurd (x_ge c_6) c_14
set_option maxHeartbeats 4000000 in
set_option maxRecDepth 100000 in
theorem k3_rowOf1 (l : Launch) (D : va_G) (C : Nat → ClassId) (b0 sz : Nat) (h0 : Nat) (a0 : Nat) (a1 : Nat) (a2 : Nat) (a3 : Nat) (a4 : Nat) (a5 : Nat) (a6 : Nat) (a7 : Nat) (a8 : Nat) (a9 : Nat) (a10 : Nat) (a11 : Nat) (ff : Int32) : Met l yX3_rowOf (xw yX3_rowOf cX3_rowOf 3 (some .int)) ({ frames := 8, cells := 0, slots := 0, locals := 150 }) (xPc D C b0 [.ref h0, .int (-2)] [(h0, .inr (3, [.ref a0, .ref a1, .ref a2, .ref a3, .ref a4, .ref a5, .ref a6, .int 1, .ref a7, .ref a8, .ref a9, .ref a10, .ref a11, .int ff]))] sz) (va_Qi (fun (r : Int32) (u : xS) => r = 0) (xBw D (va_A [(h0, .inr (3, [.ref a0, .ref a1, .ref a2, .ref a3, .ref a4, .ref a5, .ref a6, .int 1, .ref a7, .ref a8, .ref a9, .ref a10, .ref a11, .int ff]))] sz) (fun u => [(h0, .inr (3, [.ref a0, .ref a1, .ref a2, .ref a3, .ref a4, .ref a5, .ref a6, .int 1, .ref a7, .ref a8, .ref a9, .ref a10, .ref a11, .int ff]))])) (va_A [(h0, .inr (3, [.ref a0, .ref a1, .ref a2, .ref a3, .ref a4, .ref a5, .ref a6, .int 1, .ref a7, .ref a8, .ref a9, .ref a10, .ref a11, .int ff]))] sz)) 0 0 (va_A [(h0, .inr (3, [.ref a0, .ref a1, .ref a2, .ref a3, .ref a4, .ref a5, .ref a6, .int 1, .ref a7, .ref a8, .ref a9, .ref a10, .ref a11, .int ff]))] sz) := by
  refine Met.ofW (cc := cX3_rowOf) (maxL := 3) (ret := (some .int)) (by decide) rfl ?_
  intro p e s m args below meth c s₁ B hml hv
  obtain ⟨rfl, hsz, hP, hK, hD0, hE⟩ := hv
  have hx := B.exec
  have hb := B.bytes
  have hr := B.returns
  have ht : ∀ w ∈ xb, w.before _ s = true := fun w h => atoms_spec (ws := xw yX3_rowOf cX3_rowOf 3 (some .int)) B.pre w (List.mem_cons_of_mem _ h)
  have hown : s.vm.findClass RX3 = some m.cls := findClass_of_methodNamed B.named
  have hlocks := B.notSynchronized
  subst hsz
  have hAb := x_Ab hD0 hE.1
  have hD := hD0.self (sz := s.heap.size)
  generalize hAe : va_A [(h0, .inr (3, [.ref a0, .ref a1, .ref a2, .ref a3, .ref a4, .ref a5, .ref a6, .int 1, .ref a7, .ref a8, .ref a9, .ref a10, .ref a11, .int ff]))] s.heap.size = A at hD hAb ⊢
  have hA : ∀ q : Nat, s.heap.size ≤ q → A q := fun q h => by rw [← hAe]; exact Or.inr h
  have hS : va_S A s.heap s.heap [] := va_S.rf
  have hP : va_P D vwCl [(h0, .inr (3, [.ref a0, .ref a1, .ref a2, .ref a3, .ref a4, .ref a5, .ref a6, .int 1, .ref a7, .ref a8, .ref a9, .ref a10, .ref a11, .int ff]))] s.heap := hP
  have hl := lv_entry ([.ref h0, .int (-2)]) (n := 3) (Nat.le_of_ble_eq_true rfl)
  rw [lg_entry_eq]
  generalize (lg_sl ([.ref h0, .int (-2)]) ++ List.replicate (3 - (lg_sl ([.ref h0, .int (-2)])).length) Slot.unset).toArray = ls at hl ⊢
  have hl : lv_has ls 3 [(0, .ref h0), (1, .int (-2))] := hl
  refine lv_bipush (v := (-2)) hx hb dX3_rowOf_0 (by decide) ?_
  refine lv_iload_n hx hb dX3_rowOf_2 rfl (lv_at hl 1 rfl) ?_
  refine lv_isub hx hb dX3_rowOf_3 ?_
  refine lv_topi (fun x_1 ex_1 => ?_)
  obtain rfl : x_1 = (0 : Int32) := ex_1.trans (by decide)
  refine lv_istore_n (lv' := [(2, .int 0), (0, .ref h0), (1, .int (-2))]) hx hb dX3_rowOf_4 rfl hl (by decide) rfl (fun ls hl => ?_)
  refine lv_iload_n hx hb dX3_rowOf_5 rfl (lv_at hl 0 rfl) ?_
  refine lv_if_lt (tgt := 28) hx hb dX3_rowOf_6 (by decide) (fun c_6 => ?_) (fun c_6 => ?_)
  · exact absurd c_6 (by decide)
  refine lv_iload_n hx hb dX3_rowOf_9 rfl (lv_at hl 0 rfl) ?_
  refine lv_aload_n hx hb dX3_rowOf_10 rfl (lv_at hl 1 rfl) ?_
  refine va_get (D := D) (ci := 3) (v := .int 1) (C := RX3) (T := TX3) (N := 14) hx hb ht inX3 hown hK hP 0 rfl rfl 7 (by decide) (ht _ m_213) (fun _ h9 => h9) rfl dX3_rowOf_11 ?_
  refine lv_icmp_ge (tgt := 28) hx hb dX3_rowOf_14 (by decide) (fun c_14 => ?_) (fun c_14 => ?_)
  · exact absurd c_14 (by decide)
  refine lv_iload_n hx hb dX3_rowOf_17 rfl (lv_at hl 0 rfl) ?_
  refine lv_sipush (v := 600) hx hb dX3_rowOf_18 (by decide) ?_
  refine lv_icmp_ge (tgt := 28) hx hb dX3_rowOf_21 (by decide) (fun c_21 => ?_) (fun c_21 => ?_)
  · exact absurd c_21 (by decide)
  refine lv_iload_n hx hb dX3_rowOf_24 rfl (lv_at hl 0 rfl) ?_
  refine lv_goto (tgt := 29) hx hb dX3_rowOf_25 (by decide) ?_
  have hP9 := hP.sub (ws' := [(h0, .inr (3, [.ref a0, .ref a1, .ref a2, .ref a3, .ref a4, .ref a5, .ref a6, .int 1, .ref a7, .ref a8, .ref a9, .ref a10, .ref a11, .int ff]))]) [0] rfl
  have hD9 := hD.sub (ws' := [(h0, .inr (3, [.ref a0, .ref a1, .ref a2, .ref a3, .ref a4, .ref a5, .ref a6, .int 1, .ref a7, .ref a8, .ref a9, .ref a10, .ref a11, .int ff]))]) [0] (by decide) rfl
  refine W.widen (k := 0) (n := 0) (by decide) (by decide) ?_
  exact W.iret (v := 0) hx hb hr (fun t ht1 hW => ⟨⟨0, (xA [], xF []), rfl, by first | trivial | rfl | assumption | decide | (simp_all; done), by rw [ht1]; exact hP9, hD9⟩, hS.F ht1⟩) hS.2.2 dX3_rowOf_29
set_option maxHeartbeats 4000000 in
set_option maxRecDepth 100000 in
theorem k3_isObject0 (l : Launch) (D : va_G) (C : Nat → ClassId) (b0 sz : Nat) (h0 : Nat) (a0 : Nat) (a1 : Nat) (a2 : Nat) (a3 : Nat) (a4 : Nat) (a5 : Nat) (a6 : Nat) (a7 : Nat) (a8 : Nat) (a9 : Nat) (a10 : Nat) (a11 : Nat) (v0 : Int32) : Met l yX3_isObject (xw yX3_isObject cX3_isObject 2 (some .boolean)) ({ frames := 16, cells := 0, slots := 0, locals := 300 }) (xPc D C b0 [.ref h0, .int v0] [(h0, .inr (3, [.ref a0, .ref a1, .ref a2, .ref a3, .ref a4, .ref a5, .ref a6, .int 0, .ref a7, .ref a8, .ref a9, .ref a10, .ref a11, .int 0]))] sz) (va_Qi (fun (r : Int32) (u : xS) => r = 0) (xBw D (va_A [(h0, .inr (3, [.ref a0, .ref a1, .ref a2, .ref a3, .ref a4, .ref a5, .ref a6, .int 0, .ref a7, .ref a8, .ref a9, .ref a10, .ref a11, .int 0]))] sz) (fun u => [(h0, .inr (3, [.ref a0, .ref a1, .ref a2, .ref a3, .ref a4, .ref a5, .ref a6, .int 0, .ref a7, .ref a8, .ref a9, .ref a10, .ref a11, .int 0]))])) (va_A [(h0, .inr (3, [.ref a0, .ref a1, .ref a2, .ref a3, .ref a4, .ref a5, .ref a6, .int 0, .ref a7, .ref a8, .ref a9, .ref a10, .ref a11, .int 0]))] sz)) 0 0 (va_A [(h0, .inr (3, [.ref a0, .ref a1, .ref a2, .ref a3, .ref a4, .ref a5, .ref a6, .int 0, .ref a7, .ref a8, .ref a9, .ref a10, .ref a11, .int 0]))] sz) := by
  refine Met.ofW (cc := cX3_isObject) (maxL := 2) (ret := (some .boolean)) (by decide) rfl ?_
  intro p e s m args below meth c s₁ B hml hv
  obtain ⟨rfl, hsz, hP, hK, hD0, hE⟩ := hv
  have hx := B.exec
  have hb := B.bytes
  have hr := B.returns
  have ht : ∀ w ∈ xb, w.before _ s = true := fun w h => atoms_spec (ws := xw yX3_isObject cX3_isObject 2 (some .boolean)) B.pre w (List.mem_cons_of_mem _ h)
  have hown : s.vm.findClass RX3 = some m.cls := findClass_of_methodNamed B.named
  have hlocks := B.notSynchronized
  subst hsz
  have hAb := x_Ab hD0 hE.1
  have hD := hD0.self (sz := s.heap.size)
  generalize hAe : va_A [(h0, .inr (3, [.ref a0, .ref a1, .ref a2, .ref a3, .ref a4, .ref a5, .ref a6, .int 0, .ref a7, .ref a8, .ref a9, .ref a10, .ref a11, .int 0]))] s.heap.size = A at hD hAb ⊢
  have hA : ∀ q : Nat, s.heap.size ≤ q → A q := fun q h => by rw [← hAe]; exact Or.inr h
  have hS : va_S A s.heap s.heap [] := va_S.rf
  have hP : va_P D vwCl [(h0, .inr (3, [.ref a0, .ref a1, .ref a2, .ref a3, .ref a4, .ref a5, .ref a6, .int 0, .ref a7, .ref a8, .ref a9, .ref a10, .ref a11, .int 0]))] s.heap := hP
  have hl := lv_entry ([.ref h0, .int v0]) (n := 2) (Nat.le_of_ble_eq_true rfl)
  rw [lg_entry_eq]
  generalize (lg_sl ([.ref h0, .int v0]) ++ List.replicate (2 - (lg_sl ([.ref h0, .int v0])).length) Slot.unset).toArray = ls at hl ⊢
  have hl : lv_has ls 2 [(0, .ref h0), (1, .int v0)] := hl
  refine lv_aload_n hx hb dX3_isObject_0 rfl (lv_at hl 0 rfl) ?_
  refine lv_iload_n hx hb dX3_isObject_1 rfl (lv_at hl 1 rfl) ?_
  have hPc := hP.sub (ws' := [(h0, .inr (3, [.ref a0, .ref a1, .ref a2, .ref a3, .ref a4, .ref a5, .ref a6, .int 0, .ref a7, .ref a8, .ref a9, .ref a10, .ref a11, .int 0]))]) [0] rfl
  have hDc := hD.sub (ws' := [(h0, .inr (3, [.ref a0, .ref a1, .ref a2, .ref a3, .ref a4, .ref a5, .ref a6, .int 0, .ref a7, .ref a8, .ref a9, .ref a10, .ref a11, .int 0]))]) [0] (by decide) rfl
  have hFc := va_free (wc := [(h0, .inr (3, [.ref a0, .ref a1, .ref a2, .ref a3, .ref a4, .ref a5, .ref a6, .int 0, .ref a7, .ref a8, .ref a9, .ref a10, .ref a11, .int 0]))]) hD hS hA [0] rfl
  refine va_calli (va_runV (As := [.int v0]) (rest := []) ⟨hx, hb, hml, hown, ht⟩ (k3_rowOf0 l D C b0 s.heap.size h0 a0 a1 a2 a3 a4 a5 a6 a7 a8 a9 a10 a11 v0) (cwV 1 ht (xg_V m_214 m_215 m_216 m_217 m_157) rfl rfl rfl (by decide +kernel) ⟨Nat.le_of_ble_eq_true rfl, Nat.le_of_ble_eq_true rfl⟩) ⟨xPc_bl, va_recv hK hPc (ci := 3) (q0 := 0) rfl rfl, xPc_at hPc hK hDc hE hS hAb⟩ rfl rfl hl.1 rfl (lv_room (Nat.le_of_ble_eq_true rfl)) dX3_isObject_2 ⟨(by decide), (by decide)⟩) hS (fun q _ h => hFc q h) hFc (fun r_1 u_2 t H1 locs ht1 hvm hw hB hz1 hk1 hS => ?_)
  obtain ⟨hP1, hD1⟩ := hB
  rw [ht1] at hP1
  try dsimp only at hw
  obtain ⟨hP, hD⟩ := va_join (wr := []) (w1 := [(h0, .inr (3, [.ref a0, .ref a1, .ref a2, .ref a3, .ref a4, .ref a5, .ref a6, .int 0, .ref a7, .ref a8, .ref a9, .ref a10, .ref a11, .int 0]))]) hP hD [0] [] rfl rfl (by decide) (by decide) hk1 hFc hP1 hD1
  generalize H1 = H at hP hS ⊢
  have hP : va_P D vwCl [(h0, .inr (3, [.ref a0, .ref a1, .ref a2, .ref a3, .ref a4, .ref a5, .ref a6, .int 0, .ref a7, .ref a8, .ref a9, .ref a10, .ref a11, .int 0]))] H := hP
  have hD : va_D A [(h0, .inr (3, [.ref a0, .ref a1, .ref a2, .ref a3, .ref a4, .ref a5, .ref a6, .int 0, .ref a7, .ref a8, .ref a9, .ref a10, .ref a11, .int 0]))] := hD
  have hq_2 := hw
  obtain rfl : r_1 = (-1 : Int32) := hw
  refine lv_if_lt (tgt := 12) hx hb dX3_isObject_5 (by decide) (fun c_5 => ?_) (fun c_5 => ?_)
  rotate_left
  · exact absurd c_5 (by decide)
  refine lv_iconst (v := 0) hx hb dX3_isObject_12 (by decide) ?_
  have hP9 := hP.sub (ws' := [(h0, .inr (3, [.ref a0, .ref a1, .ref a2, .ref a3, .ref a4, .ref a5, .ref a6, .int 0, .ref a7, .ref a8, .ref a9, .ref a10, .ref a11, .int 0]))]) [0] rfl
  have hD9 := hD.sub (ws' := [(h0, .inr (3, [.ref a0, .ref a1, .ref a2, .ref a3, .ref a4, .ref a5, .ref a6, .int 0, .ref a7, .ref a8, .ref a9, .ref a10, .ref a11, .int 0]))]) [0] (by decide) rfl
  refine W.widen (k := 0) (n := 0) (by decide) (by decide) ?_
  exact W.zret (v := 0) (ty := .boolean) hx hb hr rfl (fun t ht1 hW => ⟨⟨0, (xA [], xF []), rfl, by first | trivial | rfl | assumption | decide | (simp_all; done), by rw [ht1]; exact hP9, hD9⟩, hS.F ht1⟩) hS.2.2 dX3_isObject_13
set_option maxHeartbeats 4000000 in
set_option maxRecDepth 100000 in
theorem k3_kindOf0 (l : Launch) (D : va_G) (C : Nat → ClassId) (b0 sz : Nat) (h0 : Nat) (a0 : Nat) (a1 : Nat) (a2 : Nat) (a3 : Nat) (a4 : Nat) (a5 : Nat) (a6 : Nat) (a7 : Nat) (a8 : Nat) (a9 : Nat) (a10 : Nat) (a11 : Nat) (v0 : Int32) : Met l yX3_kindOf (xw yX3_kindOf cX3_kindOf 3 (some .int)) ({ frames := 16, cells := 0, slots := 0, locals := 300 }) (xPc D C b0 [.ref h0, .int v0] [(h0, .inr (3, [.ref a0, .ref a1, .ref a2, .ref a3, .ref a4, .ref a5, .ref a6, .int 0, .ref a7, .ref a8, .ref a9, .ref a10, .ref a11, .int 0]))] sz) (va_Qi (fun (r : Int32) (u : xS) => r = 0) (xBw D (va_A [(h0, .inr (3, [.ref a0, .ref a1, .ref a2, .ref a3, .ref a4, .ref a5, .ref a6, .int 0, .ref a7, .ref a8, .ref a9, .ref a10, .ref a11, .int 0]))] sz) (fun u => [(h0, .inr (3, [.ref a0, .ref a1, .ref a2, .ref a3, .ref a4, .ref a5, .ref a6, .int 0, .ref a7, .ref a8, .ref a9, .ref a10, .ref a11, .int 0]))])) (va_A [(h0, .inr (3, [.ref a0, .ref a1, .ref a2, .ref a3, .ref a4, .ref a5, .ref a6, .int 0, .ref a7, .ref a8, .ref a9, .ref a10, .ref a11, .int 0]))] sz)) 0 0 (va_A [(h0, .inr (3, [.ref a0, .ref a1, .ref a2, .ref a3, .ref a4, .ref a5, .ref a6, .int 0, .ref a7, .ref a8, .ref a9, .ref a10, .ref a11, .int 0]))] sz) := by
  refine Met.ofW (cc := cX3_kindOf) (maxL := 3) (ret := (some .int)) (by decide) rfl ?_
  intro p e s m args below meth c s₁ B hml hv
  obtain ⟨rfl, hsz, hP, hK, hD0, hE⟩ := hv
  have hx := B.exec
  have hb := B.bytes
  have hr := B.returns
  have ht : ∀ w ∈ xb, w.before _ s = true := fun w h => atoms_spec (ws := xw yX3_kindOf cX3_kindOf 3 (some .int)) B.pre w (List.mem_cons_of_mem _ h)
  have hown : s.vm.findClass RX3 = some m.cls := findClass_of_methodNamed B.named
  have hlocks := B.notSynchronized
  subst hsz
  have hAb := x_Ab hD0 hE.1
  have hD := hD0.self (sz := s.heap.size)
  generalize hAe : va_A [(h0, .inr (3, [.ref a0, .ref a1, .ref a2, .ref a3, .ref a4, .ref a5, .ref a6, .int 0, .ref a7, .ref a8, .ref a9, .ref a10, .ref a11, .int 0]))] s.heap.size = A at hD hAb ⊢
  have hA : ∀ q : Nat, s.heap.size ≤ q → A q := fun q h => by rw [← hAe]; exact Or.inr h
  have hS : va_S A s.heap s.heap [] := va_S.rf
  have hP : va_P D vwCl [(h0, .inr (3, [.ref a0, .ref a1, .ref a2, .ref a3, .ref a4, .ref a5, .ref a6, .int 0, .ref a7, .ref a8, .ref a9, .ref a10, .ref a11, .int 0]))] s.heap := hP
  have hl := lv_entry ([.ref h0, .int v0]) (n := 3) (Nat.le_of_ble_eq_true rfl)
  rw [lg_entry_eq]
  generalize (lg_sl ([.ref h0, .int v0]) ++ List.replicate (3 - (lg_sl ([.ref h0, .int v0])).length) Slot.unset).toArray = ls at hl ⊢
  have hl : lv_has ls 3 [(0, .ref h0), (1, .int v0)] := hl
  refine lv_aload_n hx hb dX3_kindOf_0 rfl (lv_at hl 0 rfl) ?_
  refine lv_iload_n hx hb dX3_kindOf_1 rfl (lv_at hl 1 rfl) ?_
  have hPc := hP.sub (ws' := [(h0, .inr (3, [.ref a0, .ref a1, .ref a2, .ref a3, .ref a4, .ref a5, .ref a6, .int 0, .ref a7, .ref a8, .ref a9, .ref a10, .ref a11, .int 0]))]) [0] rfl
  have hDc := hD.sub (ws' := [(h0, .inr (3, [.ref a0, .ref a1, .ref a2, .ref a3, .ref a4, .ref a5, .ref a6, .int 0, .ref a7, .ref a8, .ref a9, .ref a10, .ref a11, .int 0]))]) [0] (by decide) rfl
  have hFc := va_free (wc := [(h0, .inr (3, [.ref a0, .ref a1, .ref a2, .ref a3, .ref a4, .ref a5, .ref a6, .int 0, .ref a7, .ref a8, .ref a9, .ref a10, .ref a11, .int 0]))]) hD hS hA [0] rfl
  refine va_calli (va_runV (As := [.int v0]) (rest := []) ⟨hx, hb, hml, hown, ht⟩ (k3_rowOf0 l D C b0 s.heap.size h0 a0 a1 a2 a3 a4 a5 a6 a7 a8 a9 a10 a11 v0) (cwV 1 ht (xg_V m_214 m_215 m_216 m_217 m_157) rfl rfl rfl (by decide +kernel) ⟨Nat.le_of_ble_eq_true rfl, Nat.le_of_ble_eq_true rfl⟩) ⟨xPc_bl, va_recv hK hPc (ci := 3) (q0 := 0) rfl rfl, xPc_at hPc hK hDc hE hS hAb⟩ rfl rfl hl.1 rfl (lv_room (Nat.le_of_ble_eq_true rfl)) dX3_kindOf_2 ⟨(by decide), (by decide)⟩) hS (fun q _ h => hFc q h) hFc (fun r_1 u_2 t H1 locs ht1 hvm hw hB hz1 hk1 hS => ?_)
  obtain ⟨hP1, hD1⟩ := hB
  rw [ht1] at hP1
  try dsimp only at hw
  obtain ⟨hP, hD⟩ := va_join (wr := []) (w1 := [(h0, .inr (3, [.ref a0, .ref a1, .ref a2, .ref a3, .ref a4, .ref a5, .ref a6, .int 0, .ref a7, .ref a8, .ref a9, .ref a10, .ref a11, .int 0]))]) hP hD [0] [] rfl rfl (by decide) (by decide) hk1 hFc hP1 hD1
  generalize H1 = H at hP hS ⊢
  have hP : va_P D vwCl [(h0, .inr (3, [.ref a0, .ref a1, .ref a2, .ref a3, .ref a4, .ref a5, .ref a6, .int 0, .ref a7, .ref a8, .ref a9, .ref a10, .ref a11, .int 0]))] H := hP
  have hD : va_D A [(h0, .inr (3, [.ref a0, .ref a1, .ref a2, .ref a3, .ref a4, .ref a5, .ref a6, .int 0, .ref a7, .ref a8, .ref a9, .ref a10, .ref a11, .int 0]))] := hD
  have hq_2 := hw
  obtain rfl : r_1 = (-1 : Int32) := hw
  refine lv_istore_n (lv' := [(2, .int (-1)), (0, .ref h0), (1, .int v0)]) hx hb dX3_kindOf_5 rfl hl (by decide) rfl (fun ls hl => ?_)
  refine lv_iload_n hx hb dX3_kindOf_6 rfl (lv_at hl 0 rfl) ?_
  refine lv_if_lt (tgt := 19) hx hb dX3_kindOf_7 (by decide) (fun c_7 => ?_) (fun c_7 => ?_)
  rotate_left
  · exact absurd c_7 (by decide)
  refine lv_iconst (v := 0) hx hb dX3_kindOf_19 (by decide) ?_
  have hP9 := hP.sub (ws' := [(h0, .inr (3, [.ref a0, .ref a1, .ref a2, .ref a3, .ref a4, .ref a5, .ref a6, .int 0, .ref a7, .ref a8, .ref a9, .ref a10, .ref a11, .int 0]))]) [0] rfl
  have hD9 := hD.sub (ws' := [(h0, .inr (3, [.ref a0, .ref a1, .ref a2, .ref a3, .ref a4, .ref a5, .ref a6, .int 0, .ref a7, .ref a8, .ref a9, .ref a10, .ref a11, .int 0]))]) [0] (by decide) rfl
  refine W.widen (k := 0) (n := 0) (by decide) (by decide) ?_
  exact W.iret (v := 0) hx hb hr (fun t ht1 hW => ⟨⟨0, (xA [], xF []), rfl, by first | trivial | rfl | assumption | decide | (simp_all; done), by rw [ht1]; exact hP9, hD9⟩, hS.F ht1⟩) hS.2.2 dX3_kindOf_20
set_option maxHeartbeats 4000000 in
set_option maxRecDepth 100000 in
theorem k3_isProxy0 (l : Launch) (D : va_G) (C : Nat → ClassId) (b0 sz : Nat) (h0 : Nat) (a0 : Nat) (a1 : Nat) (a2 : Nat) (a3 : Nat) (a4 : Nat) (a5 : Nat) (a6 : Nat) (a7 : Nat) (a8 : Nat) (a9 : Nat) (a10 : Nat) (a11 : Nat) (v0 : Int32) : Met l yX3_isProxy (xw yX3_isProxy cX3_isProxy 2 (some .boolean)) ({ frames := 24, cells := 0, slots := 0, locals := 450 }) (xPc D C b0 [.ref h0, .int v0] [(h0, .inr (3, [.ref a0, .ref a1, .ref a2, .ref a3, .ref a4, .ref a5, .ref a6, .int 0, .ref a7, .ref a8, .ref a9, .ref a10, .ref a11, .int 0]))] sz) (va_Qi (fun (r : Int32) (u : xS) => r = 0) (xBw D (va_A [(h0, .inr (3, [.ref a0, .ref a1, .ref a2, .ref a3, .ref a4, .ref a5, .ref a6, .int 0, .ref a7, .ref a8, .ref a9, .ref a10, .ref a11, .int 0]))] sz) (fun u => [(h0, .inr (3, [.ref a0, .ref a1, .ref a2, .ref a3, .ref a4, .ref a5, .ref a6, .int 0, .ref a7, .ref a8, .ref a9, .ref a10, .ref a11, .int 0]))])) (va_A [(h0, .inr (3, [.ref a0, .ref a1, .ref a2, .ref a3, .ref a4, .ref a5, .ref a6, .int 0, .ref a7, .ref a8, .ref a9, .ref a10, .ref a11, .int 0]))] sz)) 0 0 (va_A [(h0, .inr (3, [.ref a0, .ref a1, .ref a2, .ref a3, .ref a4, .ref a5, .ref a6, .int 0, .ref a7, .ref a8, .ref a9, .ref a10, .ref a11, .int 0]))] sz) := by
  refine Met.ofW (cc := cX3_isProxy) (maxL := 2) (ret := (some .boolean)) (by decide) rfl ?_
  intro p e s m args below meth c s₁ B hml hv
  obtain ⟨rfl, hsz, hP, hK, hD0, hE⟩ := hv
  have hx := B.exec
  have hb := B.bytes
  have hr := B.returns
  have ht : ∀ w ∈ xb, w.before _ s = true := fun w h => atoms_spec (ws := xw yX3_isProxy cX3_isProxy 2 (some .boolean)) B.pre w (List.mem_cons_of_mem _ h)
  have hown : s.vm.findClass RX3 = some m.cls := findClass_of_methodNamed B.named
  have hlocks := B.notSynchronized
  subst hsz
  have hAb := x_Ab hD0 hE.1
  have hD := hD0.self (sz := s.heap.size)
  generalize hAe : va_A [(h0, .inr (3, [.ref a0, .ref a1, .ref a2, .ref a3, .ref a4, .ref a5, .ref a6, .int 0, .ref a7, .ref a8, .ref a9, .ref a10, .ref a11, .int 0]))] s.heap.size = A at hD hAb ⊢
  have hA : ∀ q : Nat, s.heap.size ≤ q → A q := fun q h => by rw [← hAe]; exact Or.inr h
  have hS : va_S A s.heap s.heap [] := va_S.rf
  have hP : va_P D vwCl [(h0, .inr (3, [.ref a0, .ref a1, .ref a2, .ref a3, .ref a4, .ref a5, .ref a6, .int 0, .ref a7, .ref a8, .ref a9, .ref a10, .ref a11, .int 0]))] s.heap := hP
  have hl := lv_entry ([.ref h0, .int v0]) (n := 2) (Nat.le_of_ble_eq_true rfl)
  rw [lg_entry_eq]
  generalize (lg_sl ([.ref h0, .int v0]) ++ List.replicate (2 - (lg_sl ([.ref h0, .int v0])).length) Slot.unset).toArray = ls at hl ⊢
  have hl : lv_has ls 2 [(0, .ref h0), (1, .int v0)] := hl
  refine lv_aload_n hx hb dX3_isProxy_0 rfl (lv_at hl 0 rfl) ?_
  refine lv_iload_n hx hb dX3_isProxy_1 rfl (lv_at hl 1 rfl) ?_
  have hPc := hP.sub (ws' := [(h0, .inr (3, [.ref a0, .ref a1, .ref a2, .ref a3, .ref a4, .ref a5, .ref a6, .int 0, .ref a7, .ref a8, .ref a9, .ref a10, .ref a11, .int 0]))]) [0] rfl
  have hDc := hD.sub (ws' := [(h0, .inr (3, [.ref a0, .ref a1, .ref a2, .ref a3, .ref a4, .ref a5, .ref a6, .int 0, .ref a7, .ref a8, .ref a9, .ref a10, .ref a11, .int 0]))]) [0] (by decide) rfl
  have hFc := va_free (wc := [(h0, .inr (3, [.ref a0, .ref a1, .ref a2, .ref a3, .ref a4, .ref a5, .ref a6, .int 0, .ref a7, .ref a8, .ref a9, .ref a10, .ref a11, .int 0]))]) hD hS hA [0] rfl
  refine va_calli (va_runV (As := [.int v0]) (rest := []) ⟨hx, hb, hml, hown, ht⟩ (k3_kindOf0 l D C b0 s.heap.size h0 a0 a1 a2 a3 a4 a5 a6 a7 a8 a9 a10 a11 v0) (cwV 1 ht (xg_V m_218 m_219 m_220 m_217 m_159) rfl rfl rfl (by decide +kernel) ⟨Nat.le_of_ble_eq_true rfl, Nat.le_of_ble_eq_true rfl⟩) ⟨xPc_bl, va_recv hK hPc (ci := 3) (q0 := 0) rfl rfl, xPc_at hPc hK hDc hE hS hAb⟩ rfl rfl hl.1 rfl (lv_room (Nat.le_of_ble_eq_true rfl)) dX3_isProxy_2 ⟨(by decide), (by decide)⟩) hS (fun q _ h => hFc q h) hFc (fun r_1 u_2 t H1 locs ht1 hvm hw hB hz1 hk1 hS => ?_)
  obtain ⟨hP1, hD1⟩ := hB
  rw [ht1] at hP1
  try dsimp only at hw
  obtain ⟨hP, hD⟩ := va_join (wr := []) (w1 := [(h0, .inr (3, [.ref a0, .ref a1, .ref a2, .ref a3, .ref a4, .ref a5, .ref a6, .int 0, .ref a7, .ref a8, .ref a9, .ref a10, .ref a11, .int 0]))]) hP hD [0] [] rfl rfl (by decide) (by decide) hk1 hFc hP1 hD1
  generalize H1 = H at hP hS ⊢
  have hP : va_P D vwCl [(h0, .inr (3, [.ref a0, .ref a1, .ref a2, .ref a3, .ref a4, .ref a5, .ref a6, .int 0, .ref a7, .ref a8, .ref a9, .ref a10, .ref a11, .int 0]))] H := hP
  have hD : va_D A [(h0, .inr (3, [.ref a0, .ref a1, .ref a2, .ref a3, .ref a4, .ref a5, .ref a6, .int 0, .ref a7, .ref a8, .ref a9, .ref a10, .ref a11, .int 0]))] := hD
  have hq_2 := hw
  obtain rfl : r_1 = (0 : Int32) := hw
  refine lv_iconst (v := 4) hx hb dX3_isProxy_5 (by decide) ?_
  refine lv_icmp_ne (tgt := 13) hx hb dX3_isProxy_6 (by decide) (fun c_6 => ?_) (fun c_6 => ?_)
  rotate_left
  · exact absurd c_6 (by decide)
  refine lv_iconst (v := 0) hx hb dX3_isProxy_13 (by decide) ?_
  have hP9 := hP.sub (ws' := [(h0, .inr (3, [.ref a0, .ref a1, .ref a2, .ref a3, .ref a4, .ref a5, .ref a6, .int 0, .ref a7, .ref a8, .ref a9, .ref a10, .ref a11, .int 0]))]) [0] rfl
  have hD9 := hD.sub (ws' := [(h0, .inr (3, [.ref a0, .ref a1, .ref a2, .ref a3, .ref a4, .ref a5, .ref a6, .int 0, .ref a7, .ref a8, .ref a9, .ref a10, .ref a11, .int 0]))]) [0] (by decide) rfl
  refine W.widen (k := 0) (n := 0) (by decide) (by decide) ?_
  exact W.zret (v := 0) (ty := .boolean) hx hb hr rfl (fun t ht1 hW => ⟨⟨0, (xA [], xF []), rfl, by first | trivial | rfl | assumption | decide | (simp_all; done), by rw [ht1]; exact hP9, hD9⟩, hS.F ht1⟩) hS.2.2 dX3_isProxy_14
set_option maxHeartbeats 4000000 in
set_option maxRecDepth 100000 in
theorem k3_size0 (l : Launch) (D : va_G) (C : Nat → ClassId) (b0 sz : Nat) (h0 : Nat) (a0 : Nat) (a1 : Nat) (a2 : Nat) (a3 : Nat) (a4 : Nat) (a5 : Nat) (a6 : Nat) (a7 : Nat) (a8 : Nat) (a9 : Nat) (a10 : Nat) (a11 : Nat) : Met l yX3_size (xw yX3_size cX3_size 1 (some .int)) ({ frames := 8, cells := 0, slots := 0, locals := 150 }) (xPc D C b0 [.ref h0] [(h0, .inr (3, [.ref a0, .ref a1, .ref a2, .ref a3, .ref a4, .ref a5, .ref a6, .int 0, .ref a7, .ref a8, .ref a9, .ref a10, .ref a11, .int 0]))] sz) (va_Qi (fun (r : Int32) (u : xS) => r = 0) (xBw D (va_A [(h0, .inr (3, [.ref a0, .ref a1, .ref a2, .ref a3, .ref a4, .ref a5, .ref a6, .int 0, .ref a7, .ref a8, .ref a9, .ref a10, .ref a11, .int 0]))] sz) (fun u => [(h0, .inr (3, [.ref a0, .ref a1, .ref a2, .ref a3, .ref a4, .ref a5, .ref a6, .int 0, .ref a7, .ref a8, .ref a9, .ref a10, .ref a11, .int 0]))])) (va_A [(h0, .inr (3, [.ref a0, .ref a1, .ref a2, .ref a3, .ref a4, .ref a5, .ref a6, .int 0, .ref a7, .ref a8, .ref a9, .ref a10, .ref a11, .int 0]))] sz)) 0 0 (va_A [(h0, .inr (3, [.ref a0, .ref a1, .ref a2, .ref a3, .ref a4, .ref a5, .ref a6, .int 0, .ref a7, .ref a8, .ref a9, .ref a10, .ref a11, .int 0]))] sz) := by
  refine Met.ofW (cc := cX3_size) (maxL := 1) (ret := (some .int)) (by decide) rfl ?_
  intro p e s m args below meth c s₁ B hml hv
  obtain ⟨rfl, hsz, hP, hK, hD0, hE⟩ := hv
  have hx := B.exec
  have hb := B.bytes
  have hr := B.returns
  have ht : ∀ w ∈ xb, w.before _ s = true := fun w h => atoms_spec (ws := xw yX3_size cX3_size 1 (some .int)) B.pre w (List.mem_cons_of_mem _ h)
  have hown : s.vm.findClass RX3 = some m.cls := findClass_of_methodNamed B.named
  have hlocks := B.notSynchronized
  subst hsz
  have hAb := x_Ab hD0 hE.1
  have hD := hD0.self (sz := s.heap.size)
  generalize hAe : va_A [(h0, .inr (3, [.ref a0, .ref a1, .ref a2, .ref a3, .ref a4, .ref a5, .ref a6, .int 0, .ref a7, .ref a8, .ref a9, .ref a10, .ref a11, .int 0]))] s.heap.size = A at hD hAb ⊢
  have hA : ∀ q : Nat, s.heap.size ≤ q → A q := fun q h => by rw [← hAe]; exact Or.inr h
  have hS : va_S A s.heap s.heap [] := va_S.rf
  have hP : va_P D vwCl [(h0, .inr (3, [.ref a0, .ref a1, .ref a2, .ref a3, .ref a4, .ref a5, .ref a6, .int 0, .ref a7, .ref a8, .ref a9, .ref a10, .ref a11, .int 0]))] s.heap := hP
  have hl := lv_entry ([.ref h0]) (n := 1) (Nat.le_of_ble_eq_true rfl)
  rw [lg_entry_eq]
  generalize (lg_sl ([.ref h0]) ++ List.replicate (1 - (lg_sl ([.ref h0])).length) Slot.unset).toArray = ls at hl ⊢
  have hl : lv_has ls 1 [(0, .ref h0)] := hl
  refine lv_aload_n hx hb dX3_size_0 rfl (lv_at hl 0 rfl) ?_
  refine va_get (D := D) (ci := 3) (v := .int 0) (C := RX3) (T := TX3) (N := 14) hx hb ht inX3 hown hK hP 0 rfl rfl 7 (by decide) (ht _ m_213) (fun _ h9 => h9) rfl dX3_size_1 ?_
  have hP9 := hP.sub (ws' := [(h0, .inr (3, [.ref a0, .ref a1, .ref a2, .ref a3, .ref a4, .ref a5, .ref a6, .int 0, .ref a7, .ref a8, .ref a9, .ref a10, .ref a11, .int 0]))]) [0] rfl
  have hD9 := hD.sub (ws' := [(h0, .inr (3, [.ref a0, .ref a1, .ref a2, .ref a3, .ref a4, .ref a5, .ref a6, .int 0, .ref a7, .ref a8, .ref a9, .ref a10, .ref a11, .int 0]))]) [0] (by decide) rfl
  refine W.widen (k := 0) (n := 0) (by decide) (by decide) ?_
  exact W.iret (v := 0) hx hb hr (fun t ht1 hW => ⟨⟨0, (xA [], xF []), rfl, by first | trivial | rfl | assumption | decide | (simp_all; done), by rw [ht1]; exact hP9, hD9⟩, hS.F ht1⟩) hS.2.2 dX3_size_4
set_option maxHeartbeats 4000000 in
set_option maxRecDepth 100000 in
theorem k5_begin (l : Launch) (D : va_G) (C : Nat → ClassId) (b0 sz : Nat) (h0 : Nat) (s0 : Nat) (de : Nat) (kl : Nat) (tl : Nat) (cu : Nat) (hk : Nat) (ca : Nat) (kx : Nat) (ky : Nat) (tx : Nat) (ty : Nat) : Met l yX5_begin (xw yX5_begin cX5_begin 1 none) ({ frames := 16, cells := 0, slots := 0, locals := 300 }) (xPc D C b0 [.ref h0] [(h0, .inr (5, [.ref s0, .ref de, .ref kl, .ref tl, .ref cu, .ref hk, .ref ca, .int 0, .int 0, .int (-1), .int 0, .int 0])), (kl, .inr (2, [.ref kx, .ref ky, .int 0])), (tl, .inr (4, [.ref tx, .ref ty, .int 1]))] sz) (va_Qv (fun u : xS => True) (xBw D (va_A [(h0, .inr (5, [.ref s0, .ref de, .ref kl, .ref tl, .ref cu, .ref hk, .ref ca, .int 0, .int 0, .int (-1), .int 0, .int 0])), (kl, .inr (2, [.ref kx, .ref ky, .int 0])), (tl, .inr (4, [.ref tx, .ref ty, .int 1]))] sz) (fun u => [(h0, .inr (5, [.ref s0, .ref de, .ref kl, .ref tl, .ref cu, .ref hk, .ref ca, .int 0, .int 0, .int (-1), .int 0, .int 0])), (kl, .inr (2, [.ref kx, .ref ky, .int 0])), (tl, .inr (4, [.ref tx, .ref ty, .int 2]))])) (va_A [(h0, .inr (5, [.ref s0, .ref de, .ref kl, .ref tl, .ref cu, .ref hk, .ref ca, .int 0, .int 0, .int (-1), .int 0, .int 0])), (kl, .inr (2, [.ref kx, .ref ky, .int 0])), (tl, .inr (4, [.ref tx, .ref ty, .int 1]))] sz)) 0 0 (va_A [(h0, .inr (5, [.ref s0, .ref de, .ref kl, .ref tl, .ref cu, .ref hk, .ref ca, .int 0, .int 0, .int (-1), .int 0, .int 0])), (kl, .inr (2, [.ref kx, .ref ky, .int 0])), (tl, .inr (4, [.ref tx, .ref ty, .int 1]))] sz) := by
  refine Met.ofW (cc := cX5_begin) (maxL := 1) (ret := none) (by decide) rfl ?_
  intro p e s m args below meth c s₁ B hml hv
  obtain ⟨rfl, hsz, hP, hK, hD0, hE⟩ := hv
  have hx := B.exec
  have hb := B.bytes
  have hr := B.returns
  have ht : ∀ w ∈ xb, w.before _ s = true := fun w h => atoms_spec (ws := xw yX5_begin cX5_begin 1 none) B.pre w (List.mem_cons_of_mem _ h)
  have hown : s.vm.findClass RX5 = some m.cls := findClass_of_methodNamed B.named
  have hlocks := B.notSynchronized
  subst hsz
  have hAb := x_Ab hD0 hE.1
  have hD := hD0.self (sz := s.heap.size)
  generalize hAe : va_A [(h0, .inr (5, [.ref s0, .ref de, .ref kl, .ref tl, .ref cu, .ref hk, .ref ca, .int 0, .int 0, .int (-1), .int 0, .int 0])), (kl, .inr (2, [.ref kx, .ref ky, .int 0])), (tl, .inr (4, [.ref tx, .ref ty, .int 1]))] s.heap.size = A at hD hAb ⊢
  have hA : ∀ q : Nat, s.heap.size ≤ q → A q := fun q h => by rw [← hAe]; exact Or.inr h
  have hS : va_S A s.heap s.heap [] := va_S.rf
  have hP : va_P D vwCl [(h0, .inr (5, [.ref s0, .ref de, .ref kl, .ref tl, .ref cu, .ref hk, .ref ca, .int 0, .int 0, .int (-1), .int 0, .int 0])), (kl, .inr (2, [.ref kx, .ref ky, .int 0])), (tl, .inr (4, [.ref tx, .ref ty, .int 1]))] s.heap := hP
  have hl := lv_entry ([.ref h0]) (n := 1) (Nat.le_of_ble_eq_true rfl)
  rw [lg_entry_eq]
  generalize (lg_sl ([.ref h0]) ++ List.replicate (1 - (lg_sl ([.ref h0])).length) Slot.unset).toArray = ls at hl ⊢
  have hl : lv_has ls 1 [(0, .ref h0)] := hl
  refine lv_aload_n hx hb dX5_begin_0 rfl (lv_at hl 0 rfl) ?_
  refine lv_iconst (v := 0) hx hb dX5_begin_1 (by decide) ?_
  refine va_put (D := D) (ci := 5) (v := .int 0) (ty := tyX5 10) (C := RX5) (T := TX5) (N := 12) hx hb ht inX5 tyX5 tyX5_ok nmX5 hown hK hP hD hS 0 rfl rfl 10 (by decide) (ht _ m_221) (fun _ h9 => h9) rfl (by decide +kernel) rfl rfl (Nat.le_of_ble_eq_true rfl) dX5_begin_2 (fun H locs hP hD hS => ?_)
  have hP : va_P D vwCl [(h0, .inr (5, [.ref s0, .ref de, .ref kl, .ref tl, .ref cu, .ref hk, .ref ca, .int 0, .int 0, .int (-1), .int 0, .int 0])), (kl, .inr (2, [.ref kx, .ref ky, .int 0])), (tl, .inr (4, [.ref tx, .ref ty, .int 1]))] H := hP
  have hD : va_D A [(h0, .inr (5, [.ref s0, .ref de, .ref kl, .ref tl, .ref cu, .ref hk, .ref ca, .int 0, .int 0, .int (-1), .int 0, .int 0])), (kl, .inr (2, [.ref kx, .ref ky, .int 0])), (tl, .inr (4, [.ref tx, .ref ty, .int 1]))] := hD
  refine lv_aload_n hx hb dX5_begin_5 rfl (lv_at hl 0 rfl) ?_
  refine lv_iconst (v := 0) hx hb dX5_begin_6 (by decide) ?_
  refine va_put (D := D) (ci := 5) (v := .int 0) (ty := tyX5 8) (C := RX5) (T := TX5) (N := 12) hx hb ht inX5 tyX5 tyX5_ok nmX5 hown hK hP hD hS 0 rfl rfl 8 (by decide) (ht _ m_222) (fun _ h9 => h9) rfl (by decide +kernel) rfl rfl (Nat.le_of_ble_eq_true rfl) dX5_begin_7 (fun H locs hP hD hS => ?_)
  have hP : va_P D vwCl [(h0, .inr (5, [.ref s0, .ref de, .ref kl, .ref tl, .ref cu, .ref hk, .ref ca, .int 0, .int 0, .int (-1), .int 0, .int 0])), (kl, .inr (2, [.ref kx, .ref ky, .int 0])), (tl, .inr (4, [.ref tx, .ref ty, .int 1]))] H := hP
  have hD : va_D A [(h0, .inr (5, [.ref s0, .ref de, .ref kl, .ref tl, .ref cu, .ref hk, .ref ca, .int 0, .int 0, .int (-1), .int 0, .int 0])), (kl, .inr (2, [.ref kx, .ref ky, .int 0])), (tl, .inr (4, [.ref tx, .ref ty, .int 1]))] := hD
  refine lv_aload_n hx hb dX5_begin_10 rfl (lv_at hl 0 rfl) ?_
  refine va_get (D := D) (ci := 5) (v := .ref kl) (C := RX5) (T := TX5) (N := 12) hx hb ht inX5 hown hK hP 0 rfl rfl 2 (by decide) (ht _ m_223) (fun _ h9 => h9) rfl dX5_begin_11 ?_
  refine lv_iconst (v := 0) hx hb dX5_begin_14 (by decide) ?_
  have hPc := hP.sub (ws' := [(kl, .inr (2, [.ref kx, .ref ky, .int 0]))]) [1] rfl
  have hDc := hD.sub (ws' := [(kl, .inr (2, [.ref kx, .ref ky, .int 0]))]) [1] (by decide) rfl
  have hFc := va_free (wc := [(kl, .inr (2, [.ref kx, .ref ky, .int 0]))]) hD hS hA [1] rfl
  refine va_callv (va_runV (As := [.int 0]) (rest := []) ⟨hx, hb, hml, hown, ht⟩ (k2_cutTo l D C b0 H.size kl kx ky) (cwV 1 ht (xg_V m_224 m_225 m_226 m_227 m_155) rfl rfl rfl (by decide +kernel) ⟨Nat.le_of_ble_eq_true rfl, Nat.le_of_ble_eq_true rfl⟩) ⟨xPc_bl, va_recv hK hPc (ci := 2) (q0 := 0) rfl rfl, xPc_at hPc hK hDc hE hS hAb⟩ rfl rfl hl.1 rfl (lv_room (Nat.le_of_ble_eq_true rfl)) dX5_begin_15 ⟨(by decide), (by decide)⟩) hS (fun q _ h => hFc q h) hFc (fun u_1 t H1 locs ht1 hvm hw hB hz1 hk1 hS => ?_)
  obtain ⟨hP1, hD1⟩ := hB
  rw [ht1] at hP1
  try dsimp only at hw
  obtain ⟨hP, hD⟩ := va_join (wr := [(h0, .inr (5, [.ref s0, .ref de, .ref kl, .ref tl, .ref cu, .ref hk, .ref ca, .int 0, .int 0, .int (-1), .int 0, .int 0])), (tl, .inr (4, [.ref tx, .ref ty, .int 1]))]) (w1 := [(kl, .inr (2, [.ref kx, .ref ky, .int 0]))]) hP hD [1] [0, 2] rfl rfl (by decide) (by decide) hk1 hFc hP1 hD1
  generalize H1 = H at hP hS ⊢
  have hP : va_P D vwCl [(h0, .inr (5, [.ref s0, .ref de, .ref kl, .ref tl, .ref cu, .ref hk, .ref ca, .int 0, .int 0, .int (-1), .int 0, .int 0])), (tl, .inr (4, [.ref tx, .ref ty, .int 1])), (kl, .inr (2, [.ref kx, .ref ky, .int 0]))] H := hP
  have hD : va_D A [(h0, .inr (5, [.ref s0, .ref de, .ref kl, .ref tl, .ref cu, .ref hk, .ref ca, .int 0, .int 0, .int (-1), .int 0, .int 0])), (tl, .inr (4, [.ref tx, .ref ty, .int 1])), (kl, .inr (2, [.ref kx, .ref ky, .int 0]))] := hD
  have hq_15 := hw
  refine lv_aload_n hx hb dX5_begin_18 rfl (lv_at hl 0 rfl) ?_
  refine va_get (D := D) (ci := 5) (v := .ref tl) (C := RX5) (T := TX5) (N := 12) hx hb ht inX5 hown hK hP 0 rfl rfl 3 (by decide) (ht _ m_228) (fun _ h9 => h9) rfl dX5_begin_19 ?_
  have hPc := hP.sub (ws' := [(tl, .inr (4, [.ref tx, .ref ty, .int 1]))]) [1] rfl
  have hDc := hD.sub (ws' := [(tl, .inr (4, [.ref tx, .ref ty, .int 1]))]) [1] (by decide) rfl
  have hFc := va_free (wc := [(tl, .inr (4, [.ref tx, .ref ty, .int 1]))]) hD hS hA [1] rfl
  refine va_callv (va_runV (As := []) (rest := []) ⟨hx, hb, hml, hown, ht⟩ (k4_forget l D C b0 H.size tl tx ty) (cwV 0 ht (xg_V m_229 m_230 m_231 m_232 m_156) rfl rfl rfl (by decide +kernel) ⟨Nat.le_of_ble_eq_true rfl, Nat.le_of_ble_eq_true rfl⟩) ⟨xPc_bl, va_recv hK hPc (ci := 4) (q0 := 0) rfl rfl, xPc_at hPc hK hDc hE hS hAb⟩ rfl rfl hl.1 rfl (lv_room (Nat.le_of_ble_eq_true rfl)) dX5_begin_22 ⟨(by decide), (by decide)⟩) hS (fun q _ h => hFc q h) hFc (fun u_2 t H1 locs ht1 hvm hw hB hz1 hk1 hS => ?_)
  obtain ⟨hP1, hD1⟩ := hB
  rw [ht1] at hP1
  try dsimp only at hw
  obtain ⟨hP, hD⟩ := va_join (wr := [(h0, .inr (5, [.ref s0, .ref de, .ref kl, .ref tl, .ref cu, .ref hk, .ref ca, .int 0, .int 0, .int (-1), .int 0, .int 0])), (kl, .inr (2, [.ref kx, .ref ky, .int 0]))]) (w1 := [(tl, .inr (4, [.ref tx, .ref ty, .int 2]))]) hP hD [1] [0, 2] rfl rfl (by decide) (by decide) hk1 hFc hP1 hD1
  generalize H1 = H at hP hS ⊢
  have hP : va_P D vwCl [(h0, .inr (5, [.ref s0, .ref de, .ref kl, .ref tl, .ref cu, .ref hk, .ref ca, .int 0, .int 0, .int (-1), .int 0, .int 0])), (kl, .inr (2, [.ref kx, .ref ky, .int 0])), (tl, .inr (4, [.ref tx, .ref ty, .int 2]))] H := hP
  have hD : va_D A [(h0, .inr (5, [.ref s0, .ref de, .ref kl, .ref tl, .ref cu, .ref hk, .ref ca, .int 0, .int 0, .int (-1), .int 0, .int 0])), (kl, .inr (2, [.ref kx, .ref ky, .int 0])), (tl, .inr (4, [.ref tx, .ref ty, .int 2]))] := hD
  have hq_22 := hw
  have hP9 := hP.sub (ws' := [(h0, .inr (5, [.ref s0, .ref de, .ref kl, .ref tl, .ref cu, .ref hk, .ref ca, .int 0, .int 0, .int (-1), .int 0, .int 0])), (kl, .inr (2, [.ref kx, .ref ky, .int 0])), (tl, .inr (4, [.ref tx, .ref ty, .int 2]))]) [0, 1, 2] rfl
  have hD9 := hD.sub (ws' := [(h0, .inr (5, [.ref s0, .ref de, .ref kl, .ref tl, .ref cu, .ref hk, .ref ca, .int 0, .int 0, .int (-1), .int 0, .int 0])), (kl, .inr (2, [.ref kx, .ref ky, .int 0])), (tl, .inr (4, [.ref tx, .ref ty, .int 2]))]) [0, 1, 2] (by decide) rfl
  refine W.widen (k := 0) (n := 0) (by decide) (by decide) ?_
  exact W.vret hx hb hr (fun t ht1 hW => ⟨⟨(xA [], xF []), rfl, by first | trivial | rfl | assumption | decide | (simp_all; done), by rw [ht1]; exact hP9, hD9⟩, hS.F ht1⟩) hS.2.2 dX5_begin_25
set_option maxHeartbeats 4000000 in
set_option maxRecDepth 100000 in
theorem k5_requireObject (l : Launch) (hl0 : l.stackTraces = false) (D : va_G) (C : Nat → ClassId) (b0 sz : Nat) (h0 : Nat) (s0 : Nat) (de : Nat) (kl : Nat) (tl : Nat) (cu : Nat) (hk : Nat) (ca : Nat) (a0 : Nat) (a1 : Nat) (a2 : Nat) (a3 : Nat) (a4 : Nat) (a5 : Nat) (a6 : Nat) (a7 : Nat) (a8 : Nat) (a9 : Nat) (a10 : Nat) (a11 : Nat) (v0 : Int32) : vx_Met l yX5_requireObject (xw yX5_requireObject cX5_requireObject 2 none) ({ frames := 32, cells := 1, slots := 6, locals := 600 }) (xPc D C b0 [.ref h0, .int v0] [(h0, .inr (5, [.ref s0, .ref de, .ref kl, .ref tl, .ref cu, .ref hk, .ref ca, .int 0, .int 0, .int (-1), .int 0, .int 0])), (s0, .inr (3, [.ref a0, .ref a1, .ref a2, .ref a3, .ref a4, .ref a5, .ref a6, .int 0, .ref a7, .ref a8, .ref a9, .ref a10, .ref a11, .int 0]))] sz) (va_Qv (fun u : xS => False) (xBw D (va_A [(h0, .inr (5, [.ref s0, .ref de, .ref kl, .ref tl, .ref cu, .ref hk, .ref ca, .int 0, .int 0, .int (-1), .int 0, .int 0])), (s0, .inr (3, [.ref a0, .ref a1, .ref a2, .ref a3, .ref a4, .ref a5, .ref a6, .int 0, .ref a7, .ref a8, .ref a9, .ref a10, .ref a11, .int 0]))] sz) (fun u => [(h0, .inr (5, [.ref s0, .ref de, .ref kl, .ref tl, .ref cu, .ref hk, .ref ca, .int 0, .int 0, .int (-1), .int 0, .int 0])), (s0, .inr (3, [.ref a0, .ref a1, .ref a2, .ref a3, .ref a4, .ref a5, .ref a6, .int 0, .ref a7, .ref a8, .ref a9, .ref a10, .ref a11, .int 0]))])) (va_A [(h0, .inr (5, [.ref s0, .ref de, .ref kl, .ref tl, .ref cu, .ref hk, .ref ca, .int 0, .int 0, .int (-1), .int 0, .int 0])), (s0, .inr (3, [.ref a0, .ref a1, .ref a2, .ref a3, .ref a4, .ref a5, .ref a6, .int 0, .ref a7, .ref a8, .ref a9, .ref a10, .ref a11, .int 0]))] sz)) (xX xIAE (True) (va_A [(h0, .inr (5, [.ref s0, .ref de, .ref kl, .ref tl, .ref cu, .ref hk, .ref ca, .int 0, .int 0, .int (-1), .int 0, .int 0])), (s0, .inr (3, [.ref a0, .ref a1, .ref a2, .ref a3, .ref a4, .ref a5, .ref a6, .int 0, .ref a7, .ref a8, .ref a9, .ref a10, .ref a11, .int 0]))] sz)) 1 6 (va_A [(h0, .inr (5, [.ref s0, .ref de, .ref kl, .ref tl, .ref cu, .ref hk, .ref ca, .int 0, .int 0, .int (-1), .int 0, .int 0])), (s0, .inr (3, [.ref a0, .ref a1, .ref a2, .ref a3, .ref a4, .ref a5, .ref a6, .int 0, .ref a7, .ref a8, .ref a9, .ref a10, .ref a11, .int 0]))] sz) := by
  refine vx_ofW (cc := cX5_requireObject) (maxL := 2) (ret := none) (by decide) rfl ?_
  intro p e s m args below meth c s₁ B hml htab hv
  obtain ⟨rfl, hsz, hP, hK, hD0, hE⟩ := hv
  have hx := B.exec
  have hb := B.bytes
  have hr := B.returns
  have ht : ∀ w ∈ xb, w.before _ s = true := fun w h => atoms_spec (ws := xw yX5_requireObject cX5_requireObject 2 none) B.pre w (List.mem_cons_of_mem _ h)
  have hown : s.vm.findClass RX5 = some m.cls := findClass_of_methodNamed B.named
  have hlocks := B.notSynchronized
  subst hsz
  have hAb := x_Ab hD0 hE.1
  have hD := hD0.self (sz := s.heap.size)
  generalize hAe : va_A [(h0, .inr (5, [.ref s0, .ref de, .ref kl, .ref tl, .ref cu, .ref hk, .ref ca, .int 0, .int 0, .int (-1), .int 0, .int 0])), (s0, .inr (3, [.ref a0, .ref a1, .ref a2, .ref a3, .ref a4, .ref a5, .ref a6, .int 0, .ref a7, .ref a8, .ref a9, .ref a10, .ref a11, .int 0]))] s.heap.size = A at hD hAb ⊢
  have hA : ∀ q : Nat, s.heap.size ≤ q → A q := fun q h => by rw [← hAe]; exact Or.inr h
  have hS : va_S A s.heap s.heap [] := va_S.rf
  have hP : va_P D vwCl [(h0, .inr (5, [.ref s0, .ref de, .ref kl, .ref tl, .ref cu, .ref hk, .ref ca, .int 0, .int 0, .int (-1), .int 0, .int 0])), (s0, .inr (3, [.ref a0, .ref a1, .ref a2, .ref a3, .ref a4, .ref a5, .ref a6, .int 0, .ref a7, .ref a8, .ref a9, .ref a10, .ref a11, .int 0]))] s.heap := hP
  have hl := lv_entry ([.ref h0, .int v0]) (n := 2) (Nat.le_of_ble_eq_true rfl)
  rw [lg_entry_eq]
  generalize (lg_sl ([.ref h0, .int v0]) ++ List.replicate (2 - (lg_sl ([.ref h0, .int v0])).length) Slot.unset).toArray = ls at hl ⊢
  have hl : lv_has ls 2 [(0, .ref h0), (1, .int v0)] := hl
  refine lv_aload_n hx hb dX5_requireObject_0 rfl (lv_at hl 0 rfl) ?_
  refine va_get (D := D) (ci := 5) (v := .ref s0) (C := RX5) (T := TX5) (N := 12) hx hb ht inX5 hown hK hP 0 rfl rfl 0 (by decide) (ht _ m_233) (fun _ h9 => h9) rfl dX5_requireObject_1 ?_
  refine lv_iload_n hx hb dX5_requireObject_4 rfl (lv_at hl 1 rfl) ?_
  have hPc := hP.sub (ws' := [(s0, .inr (3, [.ref a0, .ref a1, .ref a2, .ref a3, .ref a4, .ref a5, .ref a6, .int 0, .ref a7, .ref a8, .ref a9, .ref a10, .ref a11, .int 0]))]) [1] rfl
  have hDc := hD.sub (ws' := [(s0, .inr (3, [.ref a0, .ref a1, .ref a2, .ref a3, .ref a4, .ref a5, .ref a6, .int 0, .ref a7, .ref a8, .ref a9, .ref a10, .ref a11, .int 0]))]) [1] (by decide) rfl
  have hFc := va_free (wc := [(s0, .inr (3, [.ref a0, .ref a1, .ref a2, .ref a3, .ref a4, .ref a5, .ref a6, .int 0, .ref a7, .ref a8, .ref a9, .ref a10, .ref a11, .int 0]))]) hD hS hA [1] rfl
  refine va_calli (va_runV (As := [.int v0]) (rest := []) ⟨hx, hb, hml, hown, ht⟩ (k3_isObject0 l D C b0 s.heap.size s0 a0 a1 a2 a3 a4 a5 a6 a7 a8 a9 a10 a11 v0) (cwV 1 ht (xg_V m_234 m_235 m_236 m_217 m_158) rfl rfl rfl (by decide +kernel) ⟨Nat.le_of_ble_eq_true rfl, Nat.le_of_ble_eq_true rfl⟩) ⟨xPc_bl, va_recv hK hPc (ci := 3) (q0 := 0) rfl rfl, xPc_at hPc hK hDc hE hS hAb⟩ rfl rfl hl.1 rfl (lv_room (Nat.le_of_ble_eq_true rfl)) dX5_requireObject_5 ⟨(by decide), (by decide)⟩) hS (fun q _ h => hFc q h) hFc (fun r_1 u_2 t H1 locs ht1 hvm hw hB hz1 hk1 hS => ?_)
  obtain ⟨hP1, hD1⟩ := hB
  rw [ht1] at hP1
  try dsimp only at hw
  obtain ⟨hP, hD⟩ := va_join (wr := [(h0, .inr (5, [.ref s0, .ref de, .ref kl, .ref tl, .ref cu, .ref hk, .ref ca, .int 0, .int 0, .int (-1), .int 0, .int 0]))]) (w1 := [(s0, .inr (3, [.ref a0, .ref a1, .ref a2, .ref a3, .ref a4, .ref a5, .ref a6, .int 0, .ref a7, .ref a8, .ref a9, .ref a10, .ref a11, .int 0]))]) hP hD [1] [0] rfl rfl (by decide) (by decide) hk1 hFc hP1 hD1
  generalize H1 = H at hP hS ⊢
  have hP : va_P D vwCl [(h0, .inr (5, [.ref s0, .ref de, .ref kl, .ref tl, .ref cu, .ref hk, .ref ca, .int 0, .int 0, .int (-1), .int 0, .int 0])), (s0, .inr (3, [.ref a0, .ref a1, .ref a2, .ref a3, .ref a4, .ref a5, .ref a6, .int 0, .ref a7, .ref a8, .ref a9, .ref a10, .ref a11, .int 0]))] H := hP
  have hD : va_D A [(h0, .inr (5, [.ref s0, .ref de, .ref kl, .ref tl, .ref cu, .ref hk, .ref ca, .int 0, .int 0, .int (-1), .int 0, .int 0])), (s0, .inr (3, [.ref a0, .ref a1, .ref a2, .ref a3, .ref a4, .ref a5, .ref a6, .int 0, .ref a7, .ref a8, .ref a9, .ref a10, .ref a11, .int 0]))] := hD
  have hq_5 := hw
  obtain rfl : r_1 = (0 : Int32) := hw
  refine lv_if_ne (tgt := 21) hx hb dX5_requireObject_8 (by decide) (fun c_8 => ?_) (fun c_8 => ?_)
  · exact absurd c_8 (by decide)
  exact x_thrI (text := "no OBJECT") (mc := 1) (ms := 6) hx hb hl0 hown ht hE hAb (by decide +kernel) hS (by rw [hml]; exact hl.1) dX5_requireObject_11 dX5_requireObject_14 dX5_requireObject_15 dX5_requireObject_17 dX5_requireObject_20 htab (Nat.le_of_ble_eq_true rfl) (Nat.le_of_ble_eq_true rfl) (by decide) (by decide) hlocks (fun t hv1 hz1 hq1 => ⟨(), by first | trivial | assumption | (simp_all; done), rfl, x_F hS hz1 hq1⟩) hS.2.2 (by decide) (by decide)
set_option maxHeartbeats 4000000 in
set_option maxRecDepth 100000 in
theorem k5_requirePrototype (l : Launch) (hl0 : l.stackTraces = false) (D : va_G) (C : Nat → ClassId) (b0 sz : Nat) (h0 : Nat) (s0 : Nat) (de : Nat) (kl : Nat) (tl : Nat) (cu : Nat) (hk : Nat) (ca : Nat) (a0 : Nat) (a1 : Nat) (a2 : Nat) (a3 : Nat) (a4 : Nat) (a5 : Nat) (a6 : Nat) (a7 : Nat) (a8 : Nat) (a9 : Nat) (a10 : Nat) (a11 : Nat) (v0 : Int32) : vx_Met l yX5_requirePrototype (xw yX5_requirePrototype cX5_requirePrototype 2 none) ({ frames := 40, cells := 1, slots := 6, locals := 750 }) (xPc D C b0 [.ref h0, .int v0] [(h0, .inr (5, [.ref s0, .ref de, .ref kl, .ref tl, .ref cu, .ref hk, .ref ca, .int 0, .int 0, .int (-1), .int 0, .int 0])), (s0, .inr (3, [.ref a0, .ref a1, .ref a2, .ref a3, .ref a4, .ref a5, .ref a6, .int 0, .ref a7, .ref a8, .ref a9, .ref a10, .ref a11, .int 0]))] sz) (va_Qv (fun u : xS => v0 = -1) (xBw D (va_A [(h0, .inr (5, [.ref s0, .ref de, .ref kl, .ref tl, .ref cu, .ref hk, .ref ca, .int 0, .int 0, .int (-1), .int 0, .int 0])), (s0, .inr (3, [.ref a0, .ref a1, .ref a2, .ref a3, .ref a4, .ref a5, .ref a6, .int 0, .ref a7, .ref a8, .ref a9, .ref a10, .ref a11, .int 0]))] sz) (fun u => [(h0, .inr (5, [.ref s0, .ref de, .ref kl, .ref tl, .ref cu, .ref hk, .ref ca, .int 0, .int 0, .int (-1), .int 0, .int 0])), (s0, .inr (3, [.ref a0, .ref a1, .ref a2, .ref a3, .ref a4, .ref a5, .ref a6, .int 0, .ref a7, .ref a8, .ref a9, .ref a10, .ref a11, .int 0]))])) (va_A [(h0, .inr (5, [.ref s0, .ref de, .ref kl, .ref tl, .ref cu, .ref hk, .ref ca, .int 0, .int 0, .int (-1), .int 0, .int 0])), (s0, .inr (3, [.ref a0, .ref a1, .ref a2, .ref a3, .ref a4, .ref a5, .ref a6, .int 0, .ref a7, .ref a8, .ref a9, .ref a10, .ref a11, .int 0]))] sz)) (xX xIAE (¬ v0 = -1) (va_A [(h0, .inr (5, [.ref s0, .ref de, .ref kl, .ref tl, .ref cu, .ref hk, .ref ca, .int 0, .int 0, .int (-1), .int 0, .int 0])), (s0, .inr (3, [.ref a0, .ref a1, .ref a2, .ref a3, .ref a4, .ref a5, .ref a6, .int 0, .ref a7, .ref a8, .ref a9, .ref a10, .ref a11, .int 0]))] sz)) 1 6 (va_A [(h0, .inr (5, [.ref s0, .ref de, .ref kl, .ref tl, .ref cu, .ref hk, .ref ca, .int 0, .int 0, .int (-1), .int 0, .int 0])), (s0, .inr (3, [.ref a0, .ref a1, .ref a2, .ref a3, .ref a4, .ref a5, .ref a6, .int 0, .ref a7, .ref a8, .ref a9, .ref a10, .ref a11, .int 0]))] sz) := by
  refine vx_ofW (cc := cX5_requirePrototype) (maxL := 2) (ret := none) (by decide) rfl ?_
  intro p e s m args below meth c s₁ B hml htab hv
  obtain ⟨rfl, hsz, hP, hK, hD0, hE⟩ := hv
  have hx := B.exec
  have hb := B.bytes
  have hr := B.returns
  have ht : ∀ w ∈ xb, w.before _ s = true := fun w h => atoms_spec (ws := xw yX5_requirePrototype cX5_requirePrototype 2 none) B.pre w (List.mem_cons_of_mem _ h)
  have hown : s.vm.findClass RX5 = some m.cls := findClass_of_methodNamed B.named
  have hlocks := B.notSynchronized
  subst hsz
  have hAb := x_Ab hD0 hE.1
  have hD := hD0.self (sz := s.heap.size)
  generalize hAe : va_A [(h0, .inr (5, [.ref s0, .ref de, .ref kl, .ref tl, .ref cu, .ref hk, .ref ca, .int 0, .int 0, .int (-1), .int 0, .int 0])), (s0, .inr (3, [.ref a0, .ref a1, .ref a2, .ref a3, .ref a4, .ref a5, .ref a6, .int 0, .ref a7, .ref a8, .ref a9, .ref a10, .ref a11, .int 0]))] s.heap.size = A at hD hAb ⊢
  have hA : ∀ q : Nat, s.heap.size ≤ q → A q := fun q h => by rw [← hAe]; exact Or.inr h
  have hS : va_S A s.heap s.heap [] := va_S.rf
  have hP : va_P D vwCl [(h0, .inr (5, [.ref s0, .ref de, .ref kl, .ref tl, .ref cu, .ref hk, .ref ca, .int 0, .int 0, .int (-1), .int 0, .int 0])), (s0, .inr (3, [.ref a0, .ref a1, .ref a2, .ref a3, .ref a4, .ref a5, .ref a6, .int 0, .ref a7, .ref a8, .ref a9, .ref a10, .ref a11, .int 0]))] s.heap := hP
  have hl := lv_entry ([.ref h0, .int v0]) (n := 2) (Nat.le_of_ble_eq_true rfl)
  rw [lg_entry_eq]
  generalize (lg_sl ([.ref h0, .int v0]) ++ List.replicate (2 - (lg_sl ([.ref h0, .int v0])).length) Slot.unset).toArray = ls at hl ⊢
  have hl : lv_has ls 2 [(0, .ref h0), (1, .int v0)] := hl
  refine lv_iload_n hx hb dX5_requirePrototype_0 rfl (lv_at hl 1 rfl) ?_
  refine lv_iconst (v := (-1)) hx hb dX5_requirePrototype_1 (by decide) ?_
  refine lv_icmp_eq (tgt := 10) hx hb dX5_requirePrototype_2 (by decide) (fun c_2 => ?_) (fun c_2 => ?_)
  · skip
    have hP9 := hP.sub (ws' := [(h0, .inr (5, [.ref s0, .ref de, .ref kl, .ref tl, .ref cu, .ref hk, .ref ca, .int 0, .int 0, .int (-1), .int 0, .int 0])), (s0, .inr (3, [.ref a0, .ref a1, .ref a2, .ref a3, .ref a4, .ref a5, .ref a6, .int 0, .ref a7, .ref a8, .ref a9, .ref a10, .ref a11, .int 0]))]) [0, 1] rfl
    have hD9 := hD.sub (ws' := [(h0, .inr (5, [.ref s0, .ref de, .ref kl, .ref tl, .ref cu, .ref hk, .ref ca, .int 0, .int 0, .int (-1), .int 0, .int 0])), (s0, .inr (3, [.ref a0, .ref a1, .ref a2, .ref a3, .ref a4, .ref a5, .ref a6, .int 0, .ref a7, .ref a8, .ref a9, .ref a10, .ref a11, .int 0]))]) [0, 1] (by decide) rfl
    refine W.widen (k := 1) (n := 6) (by decide) (by decide) ?_
    refine vx_ret ?_
    exact W.vret hx hb hr (fun t ht1 hW => ⟨⟨(xA [], xF []), rfl, by first | trivial | rfl | assumption | decide | (simp_all; done), by rw [ht1]; exact hP9, hD9⟩, hS.F ht1⟩) hS.2.2 dX5_requirePrototype_10
  · skip
    refine lv_aload_n hx hb dX5_requirePrototype_5 rfl (lv_at hl 0 rfl) ?_
    refine lv_iload_n hx hb dX5_requirePrototype_6 rfl (lv_at hl 1 rfl) ?_
    have hPc := hP.sub (ws' := [(h0, .inr (5, [.ref s0, .ref de, .ref kl, .ref tl, .ref cu, .ref hk, .ref ca, .int 0, .int 0, .int (-1), .int 0, .int 0])), (s0, .inr (3, [.ref a0, .ref a1, .ref a2, .ref a3, .ref a4, .ref a5, .ref a6, .int 0, .ref a7, .ref a8, .ref a9, .ref a10, .ref a11, .int 0]))]) [0, 1] rfl
    have hDc := hD.sub (ws' := [(h0, .inr (5, [.ref s0, .ref de, .ref kl, .ref tl, .ref cu, .ref hk, .ref ca, .int 0, .int 0, .int (-1), .int 0, .int 0])), (s0, .inr (3, [.ref a0, .ref a1, .ref a2, .ref a3, .ref a4, .ref a5, .ref a6, .int 0, .ref a7, .ref a8, .ref a9, .ref a10, .ref a11, .int 0]))]) [0, 1] (by decide) rfl
    have hFc := va_free (wc := [(h0, .inr (5, [.ref s0, .ref de, .ref kl, .ref tl, .ref cu, .ref hk, .ref ca, .int 0, .int 0, .int (-1), .int 0, .int 0])), (s0, .inr (3, [.ref a0, .ref a1, .ref a2, .ref a3, .ref a4, .ref a5, .ref a6, .int 0, .ref a7, .ref a8, .ref a9, .ref a10, .ref a11, .int 0]))]) hD hS hA [0, 1] rfl
    refine vx_callv (vx_runV (As := [.int v0]) (rest := []) ⟨hx, hb, hml, hown, ht⟩ (k5_requireObject l hl0 D C b0 s.heap.size h0 s0 de kl tl cu hk ca a0 a1 a2 a3 a4 a5 a6 a7 a8 a9 a10 a11 v0) (cwV 1 ht (xg_V m_237 m_238 m_239 m_240 m_163) rfl rfl rfl (by decide +kernel) ⟨Nat.le_of_ble_eq_true rfl, Nat.le_of_ble_eq_true rfl⟩) ⟨xPc_bl, va_recv hK hPc (ci := 5) (q0 := 0) rfl rfl, xPc_at hPc hK hDc hE hS hAb⟩ rfl rfl hl.1 rfl (lv_room (Nat.le_of_ble_eq_true rfl)) dX5_requirePrototype_7 ⟨(by decide), (by decide)⟩) hS (fun q _ h => hFc q h) hFc (fun q _ h => hFc q h) (fun E ce q9 u9 t9 H9 locs9 e9 v9 p9 b9 z9 k9 hS9 hc9 hn9 hf9 => ?_) (fun u_1 t H1 locs ht1 hvm hw hB hz1 hk1 hS => ?_)
    · skip
      obtain rfl := b9
      exact vx_out (mc := 1) (ms := 6) (fun x hx => (htab x hx).elim) hlocks hc9 hn9 hf9 (fun t ht1 hW1 => ⟨(), by first | exact p9 | trivial | assumption | (simp_all; done), rfl, hS9.F ht1⟩) hS9.2.2 (by decide) (by decide)
    · exact hw.elim
set_option maxHeartbeats 4000000 in
set_option maxRecDepth 100000 in
theorem k5_requireKey (l : Launch) (hl0 : l.stackTraces = false) (D : va_G) (C : Nat → ClassId) (b0 sz : Nat) (h0 : Nat) (s0 : Nat) (de : Nat) (kl : Nat) (tl : Nat) (cu : Nat) (hk : Nat) (ca : Nat) (v0 : Int32) : vx_Met l yX5_requireKey (xw yX5_requireKey cX5_requireKey 2 none) ({ frames := 32, cells := 1, slots := 6, locals := 600 }) (xPc D C b0 [.ref h0, .int v0] [(h0, .inr (5, [.ref s0, .ref de, .ref kl, .ref tl, .ref cu, .ref hk, .ref ca, .int 0, .int 0, .int (-1), .int 0, .int 0]))] sz) (va_Qv (fun u : xS => ¬ v0 < 0 ∧ v0 < 250) (xBw D (va_A [(h0, .inr (5, [.ref s0, .ref de, .ref kl, .ref tl, .ref cu, .ref hk, .ref ca, .int 0, .int 0, .int (-1), .int 0, .int 0]))] sz) (fun u => [(h0, .inr (5, [.ref s0, .ref de, .ref kl, .ref tl, .ref cu, .ref hk, .ref ca, .int 0, .int 0, .int (-1), .int 0, .int 0]))])) (va_A [(h0, .inr (5, [.ref s0, .ref de, .ref kl, .ref tl, .ref cu, .ref hk, .ref ca, .int 0, .int 0, .int (-1), .int 0, .int 0]))] sz)) (xX xIAE (v0 < 0 ∨ ¬ v0 < 250) (va_A [(h0, .inr (5, [.ref s0, .ref de, .ref kl, .ref tl, .ref cu, .ref hk, .ref ca, .int 0, .int 0, .int (-1), .int 0, .int 0]))] sz)) 1 6 (va_A [(h0, .inr (5, [.ref s0, .ref de, .ref kl, .ref tl, .ref cu, .ref hk, .ref ca, .int 0, .int 0, .int (-1), .int 0, .int 0]))] sz) := by
  refine vx_ofW (cc := cX5_requireKey) (maxL := 2) (ret := none) (by decide) rfl ?_
  intro p e s m args below meth c s₁ B hml htab hv
  obtain ⟨rfl, hsz, hP, hK, hD0, hE⟩ := hv
  have hx := B.exec
  have hb := B.bytes
  have hr := B.returns
  have ht : ∀ w ∈ xb, w.before _ s = true := fun w h => atoms_spec (ws := xw yX5_requireKey cX5_requireKey 2 none) B.pre w (List.mem_cons_of_mem _ h)
  have hown : s.vm.findClass RX5 = some m.cls := findClass_of_methodNamed B.named
  have hlocks := B.notSynchronized
  subst hsz
  have hAb := x_Ab hD0 hE.1
  have hD := hD0.self (sz := s.heap.size)
  generalize hAe : va_A [(h0, .inr (5, [.ref s0, .ref de, .ref kl, .ref tl, .ref cu, .ref hk, .ref ca, .int 0, .int 0, .int (-1), .int 0, .int 0]))] s.heap.size = A at hD hAb ⊢
  have hA : ∀ q : Nat, s.heap.size ≤ q → A q := fun q h => by rw [← hAe]; exact Or.inr h
  have hS : va_S A s.heap s.heap [] := va_S.rf
  have hP : va_P D vwCl [(h0, .inr (5, [.ref s0, .ref de, .ref kl, .ref tl, .ref cu, .ref hk, .ref ca, .int 0, .int 0, .int (-1), .int 0, .int 0]))] s.heap := hP
  have hl := lv_entry ([.ref h0, .int v0]) (n := 2) (Nat.le_of_ble_eq_true rfl)
  rw [lg_entry_eq]
  generalize (lg_sl ([.ref h0, .int v0]) ++ List.replicate (2 - (lg_sl ([.ref h0, .int v0])).length) Slot.unset).toArray = ls at hl ⊢
  have hl : lv_has ls 2 [(0, .ref h0), (1, .int v0)] := hl
  refine lv_iload_n hx hb dX5_requireKey_0 rfl (lv_at hl 1 rfl) ?_
  refine lv_if_lt (tgt := 11) hx hb dX5_requireKey_1 (by decide) (fun c_1 => ?_) (fun c_1 => ?_)
  · skip
    exact x_thrI (text := "no KEY") (mc := 1) (ms := 6) hx hb hl0 hown ht hE hAb (by decide +kernel) hS (by rw [hml]; exact hl.1) dX5_requireKey_11 dX5_requireKey_14 dX5_requireKey_15 dX5_requireKey_17 dX5_requireKey_20 htab (Nat.le_of_ble_eq_true rfl) (Nat.le_of_ble_eq_true rfl) (by decide) (by decide) hlocks (fun t hv1 hz1 hq1 => ⟨(), by first | exact Or.inl c_1 | exact Or.inr c_8, rfl, x_F hS hz1 hq1⟩) hS.2.2 (by decide) (by decide)
  · skip
    refine lv_iload_n hx hb dX5_requireKey_4 rfl (lv_at hl 1 rfl) ?_
    refine lv_sipush (v := 250) hx hb dX5_requireKey_5 (by decide) ?_
    refine lv_icmp_lt (tgt := 21) hx hb dX5_requireKey_8 (by decide) (fun c_8 => ?_) (fun c_8 => ?_)
    · skip
      have hP9 := hP.sub (ws' := [(h0, .inr (5, [.ref s0, .ref de, .ref kl, .ref tl, .ref cu, .ref hk, .ref ca, .int 0, .int 0, .int (-1), .int 0, .int 0]))]) [0] rfl
      have hD9 := hD.sub (ws' := [(h0, .inr (5, [.ref s0, .ref de, .ref kl, .ref tl, .ref cu, .ref hk, .ref ca, .int 0, .int 0, .int (-1), .int 0, .int 0]))]) [0] (by decide) rfl
      refine W.widen (k := 1) (n := 6) (by decide) (by decide) ?_
      refine vx_ret ?_
      exact W.vret hx hb hr (fun t ht1 hW => ⟨⟨(xA [], xF []), rfl, ⟨c_1, c_8⟩, by rw [ht1]; exact hP9, hD9⟩, hS.F ht1⟩) hS.2.2 dX5_requireKey_21
    · skip
      exact x_thrI (text := "no KEY") (mc := 1) (ms := 6) hx hb hl0 hown ht hE hAb (by decide +kernel) hS (by rw [hml]; exact hl.1) dX5_requireKey_11 dX5_requireKey_14 dX5_requireKey_15 dX5_requireKey_17 dX5_requireKey_20 htab (Nat.le_of_ble_eq_true rfl) (Nat.le_of_ble_eq_true rfl) (by decide) (by decide) hlocks (fun t hv1 hz1 hq1 => ⟨(), by first | exact Or.inl c_1 | exact Or.inr c_8, rfl, x_F hS hz1 hq1⟩) hS.2.2 (by decide) (by decide)
end
section
set_option maxHeartbeats 4000000 in
set_option maxRecDepth 100000 in
theorem k3_isSlot0 (l : Launch) (D : va_G) (C : Nat → ClassId) (b0 sz : Nat) (h0 : Nat) (a0 : Nat) (a1 : Nat) (a2 : Nat) (a3 : Nat) (a4 : Nat) (a5 : Nat) (a6 : Nat) (a7 : Nat) (a8 : Nat) (a9 : Nat) (a10 : Nat) (a11 : Nat) (ff : Int32) : Met l yX3_isSlot (xw yX3_isSlot cX3_isSlot 2 (some .boolean)) ({ frames := 8, cells := 0, slots := 0, locals := 150 }) (xPc D C b0 [.ref h0, .int 0] [(h0, .inr (3, [.ref a0, .ref a1, .ref a2, .ref a3, .ref a4, .ref a5, .ref a6, .int 1, .ref a7, .ref a8, .ref a9, .ref a10, .ref a11, .int ff]))] sz) (va_Qi (fun (r : Int32) (u : xS) => r = 1) (xBw D (va_A [(h0, .inr (3, [.ref a0, .ref a1, .ref a2, .ref a3, .ref a4, .ref a5, .ref a6, .int 1, .ref a7, .ref a8, .ref a9, .ref a10, .ref a11, .int ff]))] sz) (fun u => [(h0, .inr (3, [.ref a0, .ref a1, .ref a2, .ref a3, .ref a4, .ref a5, .ref a6, .int 1, .ref a7, .ref a8, .ref a9, .ref a10, .ref a11, .int ff]))])) (va_A [(h0, .inr (3, [.ref a0, .ref a1, .ref a2, .ref a3, .ref a4, .ref a5, .ref a6, .int 1, .ref a7, .ref a8, .ref a9, .ref a10, .ref a11, .int ff]))] sz)) 0 0 (va_A [(h0, .inr (3, [.ref a0, .ref a1, .ref a2, .ref a3, .ref a4, .ref a5, .ref a6, .int 1, .ref a7, .ref a8, .ref a9, .ref a10, .ref a11, .int ff]))] sz) := by
  refine Met.ofW (cc := cX3_isSlot) (maxL := 2) (ret := (some .boolean)) (by decide) rfl ?_
  intro p e s m args below meth c s₁ B hml hv
  obtain ⟨rfl, hsz, hP, hK, hD0, hE⟩ := hv
  have hx := B.exec
  have hb := B.bytes
  have hr := B.returns
  have ht : ∀ w ∈ xb, w.before _ s = true := fun w h => atoms_spec (ws := xw yX3_isSlot cX3_isSlot 2 (some .boolean)) B.pre w (List.mem_cons_of_mem _ h)
  have hown : s.vm.findClass RX3 = some m.cls := findClass_of_methodNamed B.named
  have hlocks := B.notSynchronized
  subst hsz
  have hAb := x_Ab hD0 hE.1
  have hD := hD0.self (sz := s.heap.size)
  generalize hAe : va_A [(h0, .inr (3, [.ref a0, .ref a1, .ref a2, .ref a3, .ref a4, .ref a5, .ref a6, .int 1, .ref a7, .ref a8, .ref a9, .ref a10, .ref a11, .int ff]))] s.heap.size = A at hD hAb ⊢
  have hA : ∀ q : Nat, s.heap.size ≤ q → A q := fun q h => by rw [← hAe]; exact Or.inr h
  have hS : va_S A s.heap s.heap [] := va_S.rf
  have hP : va_P D vwCl [(h0, .inr (3, [.ref a0, .ref a1, .ref a2, .ref a3, .ref a4, .ref a5, .ref a6, .int 1, .ref a7, .ref a8, .ref a9, .ref a10, .ref a11, .int ff]))] s.heap := hP
  have hl := lv_entry ([.ref h0, .int 0]) (n := 2) (Nat.le_of_ble_eq_true rfl)
  rw [lg_entry_eq]
  generalize (lg_sl ([.ref h0, .int 0]) ++ List.replicate (2 - (lg_sl ([.ref h0, .int 0])).length) Slot.unset).toArray = ls at hl ⊢
  have hl : lv_has ls 2 [(0, .ref h0), (1, .int 0)] := hl
  refine lv_iload_n hx hb dX3_isSlot_0 rfl (lv_at hl 1 rfl) ?_
  refine lv_if_lt (tgt := 15) hx hb dX3_isSlot_1 (by decide) (fun c_1 => ?_) (fun c_1 => ?_)
  · exact absurd c_1 (by decide)
  refine lv_iload_n hx hb dX3_isSlot_4 rfl (lv_at hl 1 rfl) ?_
  refine lv_sipush (v := 5999) hx hb dX3_isSlot_5 (by decide) ?_
  refine lv_icmp_ge (tgt := 15) hx hb dX3_isSlot_8 (by decide) (fun c_8 => ?_) (fun c_8 => ?_)
  · exact absurd c_8 (by decide)
  refine lv_iconst (v := 1) hx hb dX3_isSlot_11 (by decide) ?_
  refine lv_goto (tgt := 16) hx hb dX3_isSlot_12 (by decide) ?_
  have hP9 := hP.sub (ws' := [(h0, .inr (3, [.ref a0, .ref a1, .ref a2, .ref a3, .ref a4, .ref a5, .ref a6, .int 1, .ref a7, .ref a8, .ref a9, .ref a10, .ref a11, .int ff]))]) [0] rfl
  have hD9 := hD.sub (ws' := [(h0, .inr (3, [.ref a0, .ref a1, .ref a2, .ref a3, .ref a4, .ref a5, .ref a6, .int 1, .ref a7, .ref a8, .ref a9, .ref a10, .ref a11, .int ff]))]) [0] (by decide) rfl
  refine W.widen (k := 0) (n := 0) (by decide) (by decide) ?_
  exact W.zret (v := 1) (ty := .boolean) hx hb hr rfl (fun t ht1 hW => ⟨⟨1, (xA [], xF []), rfl, by first | trivial | rfl | assumption | decide | (simp_all; done), by rw [ht1]; exact hP9, hD9⟩, hS.F ht1⟩) hS.2.2 dX3_isSlot_16
set_option maxHeartbeats 4000000 in
set_option maxRecDepth 100000 in
theorem k3_isSlotN (l : Launch) (D : va_G) (C : Nat → ClassId) (b0 sz : Nat) (h0 : Nat) (a0 : Nat) (a1 : Nat) (a2 : Nat) (a3 : Nat) (a4 : Nat) (a5 : Nat) (a6 : Nat) (a7 : Nat) (a8 : Nat) (a9 : Nat) (a10 : Nat) (a11 : Nat) (ff : Int32) : Met l yX3_isSlot (xw yX3_isSlot cX3_isSlot 2 (some .boolean)) ({ frames := 8, cells := 0, slots := 0, locals := 150 }) (xPc D C b0 [.ref h0, .int (-1)] [(h0, .inr (3, [.ref a0, .ref a1, .ref a2, .ref a3, .ref a4, .ref a5, .ref a6, .int 1, .ref a7, .ref a8, .ref a9, .ref a10, .ref a11, .int ff]))] sz) (va_Qi (fun (r : Int32) (u : xS) => r = 0) (xBw D (va_A [(h0, .inr (3, [.ref a0, .ref a1, .ref a2, .ref a3, .ref a4, .ref a5, .ref a6, .int 1, .ref a7, .ref a8, .ref a9, .ref a10, .ref a11, .int ff]))] sz) (fun u => [(h0, .inr (3, [.ref a0, .ref a1, .ref a2, .ref a3, .ref a4, .ref a5, .ref a6, .int 1, .ref a7, .ref a8, .ref a9, .ref a10, .ref a11, .int ff]))])) (va_A [(h0, .inr (3, [.ref a0, .ref a1, .ref a2, .ref a3, .ref a4, .ref a5, .ref a6, .int 1, .ref a7, .ref a8, .ref a9, .ref a10, .ref a11, .int ff]))] sz)) 0 0 (va_A [(h0, .inr (3, [.ref a0, .ref a1, .ref a2, .ref a3, .ref a4, .ref a5, .ref a6, .int 1, .ref a7, .ref a8, .ref a9, .ref a10, .ref a11, .int ff]))] sz) := by
  refine Met.ofW (cc := cX3_isSlot) (maxL := 2) (ret := (some .boolean)) (by decide) rfl ?_
  intro p e s m args below meth c s₁ B hml hv
  obtain ⟨rfl, hsz, hP, hK, hD0, hE⟩ := hv
  have hx := B.exec
  have hb := B.bytes
  have hr := B.returns
  have ht : ∀ w ∈ xb, w.before _ s = true := fun w h => atoms_spec (ws := xw yX3_isSlot cX3_isSlot 2 (some .boolean)) B.pre w (List.mem_cons_of_mem _ h)
  have hown : s.vm.findClass RX3 = some m.cls := findClass_of_methodNamed B.named
  have hlocks := B.notSynchronized
  subst hsz
  have hAb := x_Ab hD0 hE.1
  have hD := hD0.self (sz := s.heap.size)
  generalize hAe : va_A [(h0, .inr (3, [.ref a0, .ref a1, .ref a2, .ref a3, .ref a4, .ref a5, .ref a6, .int 1, .ref a7, .ref a8, .ref a9, .ref a10, .ref a11, .int ff]))] s.heap.size = A at hD hAb ⊢
  have hA : ∀ q : Nat, s.heap.size ≤ q → A q := fun q h => by rw [← hAe]; exact Or.inr h
  have hS : va_S A s.heap s.heap [] := va_S.rf
  have hP : va_P D vwCl [(h0, .inr (3, [.ref a0, .ref a1, .ref a2, .ref a3, .ref a4, .ref a5, .ref a6, .int 1, .ref a7, .ref a8, .ref a9, .ref a10, .ref a11, .int ff]))] s.heap := hP
  have hl := lv_entry ([.ref h0, .int (-1)]) (n := 2) (Nat.le_of_ble_eq_true rfl)
  rw [lg_entry_eq]
  generalize (lg_sl ([.ref h0, .int (-1)]) ++ List.replicate (2 - (lg_sl ([.ref h0, .int (-1)])).length) Slot.unset).toArray = ls at hl ⊢
  have hl : lv_has ls 2 [(0, .ref h0), (1, .int (-1))] := hl
  refine lv_iload_n hx hb dX3_isSlot_0 rfl (lv_at hl 1 rfl) ?_
  refine lv_if_lt (tgt := 15) hx hb dX3_isSlot_1 (by decide) (fun c_1 => ?_) (fun c_1 => ?_)
  rotate_left
  · exact absurd c_1 (by decide)
  refine lv_iconst (v := 0) hx hb dX3_isSlot_15 (by decide) ?_
  have hP9 := hP.sub (ws' := [(h0, .inr (3, [.ref a0, .ref a1, .ref a2, .ref a3, .ref a4, .ref a5, .ref a6, .int 1, .ref a7, .ref a8, .ref a9, .ref a10, .ref a11, .int ff]))]) [0] rfl
  have hD9 := hD.sub (ws' := [(h0, .inr (3, [.ref a0, .ref a1, .ref a2, .ref a3, .ref a4, .ref a5, .ref a6, .int 1, .ref a7, .ref a8, .ref a9, .ref a10, .ref a11, .int ff]))]) [0] (by decide) rfl
  refine W.widen (k := 0) (n := 0) (by decide) (by decide) ?_
  exact W.zret (v := 0) (ty := .boolean) hx hb hr rfl (fun t ht1 hW => ⟨⟨0, (xA [], xF []), rfl, by first | trivial | rfl | assumption | decide | (simp_all; done), by rw [ht1]; exact hP9, hD9⟩, hS.F ht1⟩) hS.2.2 dX3_isSlot_16
set_option maxHeartbeats 4000000 in
set_option maxRecDepth 100000 in
theorem k3_add (l : Launch) (D : va_G) (C : Nat → ClassId) (b0 sz : Nat) (h0 : Nat) (a0 : Nat) (a1 : Nat) (a2 : Nat) (a3 : Nat) (a4 : Nat) (a5 : Nat) (a6 : Nat) (a7 : Nat) (a8 : Nat) (a9 : Nat) (a10 : Nat) (a11 : Nat) (f0 : Nat → Int32) (f1 : Nat → Int32) (f2 : Nat → Int32) (f3 : Nat → Int32) (kd : Int32) (pa : Int32) : Met l yX3_add (xw yX3_add cX3_add 4 (some .int)) ({ frames := 8, cells := 0, slots := 0, locals := 150 }) (xPc D C b0 [.ref h0, .int kd, .int pa] [(h0, .inr (3, [.ref a0, .ref a1, .ref a2, .ref a3, .ref a4, .ref a5, .ref a6, .int 0, .ref a7, .ref a8, .ref a9, .ref a10, .ref a11, .int 0])), (a0, .inl (C 0, 600, .inl f0)), (a1, .inl (C 0, 600, .inl f1)), (a2, .inl (C 1, 600, .inl f2)), (a3, .inl (C 0, 600, .inl f3))] sz) (va_Qi (fun (r : Int32) (u : xS) => r = -2 ∧ u.2 3 0 = -1) (xBw D (va_A [(h0, .inr (3, [.ref a0, .ref a1, .ref a2, .ref a3, .ref a4, .ref a5, .ref a6, .int 0, .ref a7, .ref a8, .ref a9, .ref a10, .ref a11, .int 0])), (a0, .inl (C 0, 600, .inl f0)), (a1, .inl (C 0, 600, .inl f1)), (a2, .inl (C 1, 600, .inl f2)), (a3, .inl (C 0, 600, .inl f3))] sz) (fun u => [(h0, .inr (3, [.ref a0, .ref a1, .ref a2, .ref a3, .ref a4, .ref a5, .ref a6, .int 1, .ref a7, .ref a8, .ref a9, .ref a10, .ref a11, .int 0])), (a0, .inl (C 0, 600, .inl (u.2 0))), (a1, .inl (C 0, 600, .inl (u.2 1))), (a2, .inl (C 1, 600, .inl (u.2 2))), (a3, .inl (C 0, 600, .inl (u.2 3)))])) (va_A [(h0, .inr (3, [.ref a0, .ref a1, .ref a2, .ref a3, .ref a4, .ref a5, .ref a6, .int 0, .ref a7, .ref a8, .ref a9, .ref a10, .ref a11, .int 0])), (a0, .inl (C 0, 600, .inl f0)), (a1, .inl (C 0, 600, .inl f1)), (a2, .inl (C 1, 600, .inl f2)), (a3, .inl (C 0, 600, .inl f3))] sz)) 0 0 (va_A [(h0, .inr (3, [.ref a0, .ref a1, .ref a2, .ref a3, .ref a4, .ref a5, .ref a6, .int 0, .ref a7, .ref a8, .ref a9, .ref a10, .ref a11, .int 0])), (a0, .inl (C 0, 600, .inl f0)), (a1, .inl (C 0, 600, .inl f1)), (a2, .inl (C 1, 600, .inl f2)), (a3, .inl (C 0, 600, .inl f3))] sz) := by
  refine Met.ofW (cc := cX3_add) (maxL := 4) (ret := (some .int)) (by decide) rfl ?_
  intro p e s m args below meth c s₁ B hml hv
  obtain ⟨rfl, hsz, hP, hK, hD0, hE⟩ := hv
  have hx := B.exec
  have hb := B.bytes
  have hr := B.returns
  have ht : ∀ w ∈ xb, w.before _ s = true := fun w h => atoms_spec (ws := xw yX3_add cX3_add 4 (some .int)) B.pre w (List.mem_cons_of_mem _ h)
  have hown : s.vm.findClass RX3 = some m.cls := findClass_of_methodNamed B.named
  have hlocks := B.notSynchronized
  subst hsz
  have hAb := x_Ab hD0 hE.1
  have hD := hD0.self (sz := s.heap.size)
  generalize hAe : va_A [(h0, .inr (3, [.ref a0, .ref a1, .ref a2, .ref a3, .ref a4, .ref a5, .ref a6, .int 0, .ref a7, .ref a8, .ref a9, .ref a10, .ref a11, .int 0])), (a0, .inl (C 0, 600, .inl f0)), (a1, .inl (C 0, 600, .inl f1)), (a2, .inl (C 1, 600, .inl f2)), (a3, .inl (C 0, 600, .inl f3))] s.heap.size = A at hD hAb ⊢
  have hA : ∀ q : Nat, s.heap.size ≤ q → A q := fun q h => by rw [← hAe]; exact Or.inr h
  have hS : va_S A s.heap s.heap [] := va_S.rf
  have hP : va_P D vwCl [(h0, .inr (3, [.ref a0, .ref a1, .ref a2, .ref a3, .ref a4, .ref a5, .ref a6, .int 0, .ref a7, .ref a8, .ref a9, .ref a10, .ref a11, .int 0])), (a0, .inl (C 0, 600, .inl f0)), (a1, .inl (C 0, 600, .inl f1)), (a2, .inl (C 1, 600, .inl f2)), (a3, .inl (C 0, 600, .inl f3))] s.heap := hP
  have hl := lv_entry ([.ref h0, .int kd, .int pa]) (n := 4) (Nat.le_of_ble_eq_true rfl)
  rw [lg_entry_eq]
  generalize (lg_sl ([.ref h0, .int kd, .int pa]) ++ List.replicate (4 - (lg_sl ([.ref h0, .int kd, .int pa])).length) Slot.unset).toArray = ls at hl ⊢
  have hl : lv_has ls 4 [(0, .ref h0), (1, .int kd), (2, .int pa)] := hl
  refine lv_aload_n hx hb dX3_add_0 rfl (lv_at hl 0 rfl) ?_
  refine va_get (D := D) (ci := 3) (v := .int 0) (C := RX3) (T := TX3) (N := 14) hx hb ht inX3 hown hK hP 0 rfl rfl 7 (by decide) (ht _ m_213) (fun _ h9 => h9) rfl dX3_add_1 ?_
  refine lv_istore_n (lv' := [(3, .int 0), (0, .ref h0), (1, .int kd), (2, .int pa)]) hx hb dX3_add_4 rfl hl (by decide) rfl (fun ls hl => ?_)
  refine lv_iload_n hx hb dX3_add_5 rfl (lv_at hl 0 rfl) ?_
  refine lv_sipush (v := 600) hx hb dX3_add_6 (by decide) ?_
  refine lv_icmp_ge (tgt := 21) hx hb dX3_add_9 (by decide) (fun c_9 => ?_) (fun c_9 => ?_)
  · exact absurd c_9 (by decide)
  refine lv_iload_n hx hb dX3_add_12 rfl (lv_at hl 0 rfl) ?_
  refine lv_aload_n hx hb dX3_add_13 rfl (lv_at hl 1 rfl) ?_
  refine va_get (D := D) (ci := 3) (v := .ref a0) (C := RX3) (T := TX3) (N := 14) hx hb ht inX3 hown hK hP 0 rfl rfl 0 (by decide) (ht _ m_241) (fun _ h9 => h9) rfl dX3_add_14 ?_
  refine va_alen (v := 600) hx hb hK hP 1 0 rfl rfl (show Int32.ofNat 600 = 600 by decide) dX3_add_17 ?_
  refine lv_icmp_lt (tgt := 31) hx hb dX3_add_18 (by decide) (fun c_18 => ?_) (fun c_18 => ?_)
  rotate_left
  · exact absurd c_18 (by decide)
  refine lv_aload_n hx hb dX3_add_31 rfl (lv_at hl 1 rfl) ?_
  refine va_get (D := D) (ci := 3) (v := .ref a0) (C := RX3) (T := TX3) (N := 14) hx hb ht inX3 hown hK hP 0 rfl rfl 0 (by decide) (ht _ m_241) (fun _ h9 => h9) rfl dX3_add_32 ?_
  refine lv_iload_n hx hb dX3_add_35 rfl (lv_at hl 0 rfl) ?_
  refine lv_iload_n hx hb dX3_add_36 rfl (lv_at hl 2 rfl) ?_
  refine va_iast hx hb hK hP hD hS 1 0 rfl rfl (by unfold vp_in; decide) dX3_add_37 (fun H locs hP hD hS => ?_)
  have hP : va_P D vwCl [(h0, .inr (3, [.ref a0, .ref a1, .ref a2, .ref a3, .ref a4, .ref a5, .ref a6, .int 0, .ref a7, .ref a8, .ref a9, .ref a10, .ref a11, .int 0])), (a0, .inl (C 0, 600, .inl ((upd f0 (Int32.toNatClampNeg 0) kd)))), (a1, .inl (C 0, 600, .inl f1)), (a2, .inl (C 1, 600, .inl f2)), (a3, .inl (C 0, 600, .inl f3))] H := hP
  have hD : va_D A [(h0, .inr (3, [.ref a0, .ref a1, .ref a2, .ref a3, .ref a4, .ref a5, .ref a6, .int 0, .ref a7, .ref a8, .ref a9, .ref a10, .ref a11, .int 0])), (a0, .inl (C 0, 600, .inl ((upd f0 (Int32.toNatClampNeg 0) kd)))), (a1, .inl (C 0, 600, .inl f1)), (a2, .inl (C 1, 600, .inl f2)), (a3, .inl (C 0, 600, .inl f3))] := hD
  refine lv_aload_n hx hb dX3_add_38 rfl (lv_at hl 1 rfl) ?_
  refine va_get (D := D) (ci := 3) (v := .ref a1) (C := RX3) (T := TX3) (N := 14) hx hb ht inX3 hown hK hP 0 rfl rfl 1 (by decide) (ht _ m_242) (fun _ h9 => h9) rfl dX3_add_39 ?_
  refine lv_iload_n hx hb dX3_add_42 rfl (lv_at hl 0 rfl) ?_
  refine lv_iload_n hx hb dX3_add_43 rfl (lv_at hl 3 rfl) ?_
  refine va_iast hx hb hK hP hD hS 2 0 rfl rfl (by unfold vp_in; decide) dX3_add_44 (fun H locs hP hD hS => ?_)
  have hP : va_P D vwCl [(h0, .inr (3, [.ref a0, .ref a1, .ref a2, .ref a3, .ref a4, .ref a5, .ref a6, .int 0, .ref a7, .ref a8, .ref a9, .ref a10, .ref a11, .int 0])), (a0, .inl (C 0, 600, .inl ((upd f0 (Int32.toNatClampNeg 0) kd)))), (a1, .inl (C 0, 600, .inl ((upd f1 (Int32.toNatClampNeg 0) pa)))), (a2, .inl (C 1, 600, .inl f2)), (a3, .inl (C 0, 600, .inl f3))] H := hP
  have hD : va_D A [(h0, .inr (3, [.ref a0, .ref a1, .ref a2, .ref a3, .ref a4, .ref a5, .ref a6, .int 0, .ref a7, .ref a8, .ref a9, .ref a10, .ref a11, .int 0])), (a0, .inl (C 0, 600, .inl ((upd f0 (Int32.toNatClampNeg 0) kd)))), (a1, .inl (C 0, 600, .inl ((upd f1 (Int32.toNatClampNeg 0) pa)))), (a2, .inl (C 1, 600, .inl f2)), (a3, .inl (C 0, 600, .inl f3))] := hD
  refine lv_aload_n hx hb dX3_add_45 rfl (lv_at hl 1 rfl) ?_
  refine va_get (D := D) (ci := 3) (v := .ref a2) (C := RX3) (T := TX3) (N := 14) hx hb ht inX3 hown hK hP 0 rfl rfl 2 (by decide) (ht _ m_243) (fun _ h9 => h9) rfl dX3_add_46 ?_
  refine lv_iload_n hx hb dX3_add_49 rfl (lv_at hl 0 rfl) ?_
  refine lv_iconst (v := 1) hx hb dX3_add_50 (by decide) ?_
  refine va_zast hx hb hK hP hD hS 3 1 rfl rfl (by unfold vp_in; decide) dX3_add_51 (fun H locs hP hD hS => ?_)
  have hP : va_P D vwCl [(h0, .inr (3, [.ref a0, .ref a1, .ref a2, .ref a3, .ref a4, .ref a5, .ref a6, .int 0, .ref a7, .ref a8, .ref a9, .ref a10, .ref a11, .int 0])), (a0, .inl (C 0, 600, .inl ((upd f0 (Int32.toNatClampNeg 0) kd)))), (a1, .inl (C 0, 600, .inl ((upd f1 (Int32.toNatClampNeg 0) pa)))), (a2, .inl (C 1, 600, .inl ((upd f2 (Int32.toNatClampNeg 0) (vp_nar .boolean 1))))), (a3, .inl (C 0, 600, .inl f3))] H := hP
  have hD : va_D A [(h0, .inr (3, [.ref a0, .ref a1, .ref a2, .ref a3, .ref a4, .ref a5, .ref a6, .int 0, .ref a7, .ref a8, .ref a9, .ref a10, .ref a11, .int 0])), (a0, .inl (C 0, 600, .inl ((upd f0 (Int32.toNatClampNeg 0) kd)))), (a1, .inl (C 0, 600, .inl ((upd f1 (Int32.toNatClampNeg 0) pa)))), (a2, .inl (C 1, 600, .inl ((upd f2 (Int32.toNatClampNeg 0) (vp_nar .boolean 1))))), (a3, .inl (C 0, 600, .inl f3))] := hD
  refine lv_aload_n hx hb dX3_add_52 rfl (lv_at hl 1 rfl) ?_
  refine va_get (D := D) (ci := 3) (v := .ref a3) (C := RX3) (T := TX3) (N := 14) hx hb ht inX3 hown hK hP 0 rfl rfl 3 (by decide) (ht _ m_244) (fun _ h9 => h9) rfl dX3_add_53 ?_
  refine lv_iload_n hx hb dX3_add_56 rfl (lv_at hl 0 rfl) ?_
  refine lv_iconst (v := (-1)) hx hb dX3_add_57 (by decide) ?_
  refine va_iast hx hb hK hP hD hS 4 0 rfl rfl (by unfold vp_in; decide) dX3_add_58 (fun H locs hP hD hS => ?_)
  have hP : va_P D vwCl [(h0, .inr (3, [.ref a0, .ref a1, .ref a2, .ref a3, .ref a4, .ref a5, .ref a6, .int 0, .ref a7, .ref a8, .ref a9, .ref a10, .ref a11, .int 0])), (a0, .inl (C 0, 600, .inl ((upd f0 (Int32.toNatClampNeg 0) kd)))), (a1, .inl (C 0, 600, .inl ((upd f1 (Int32.toNatClampNeg 0) pa)))), (a2, .inl (C 1, 600, .inl ((upd f2 (Int32.toNatClampNeg 0) (vp_nar .boolean 1))))), (a3, .inl (C 0, 600, .inl ((upd f3 (Int32.toNatClampNeg 0) (-1)))))] H := hP
  have hD : va_D A [(h0, .inr (3, [.ref a0, .ref a1, .ref a2, .ref a3, .ref a4, .ref a5, .ref a6, .int 0, .ref a7, .ref a8, .ref a9, .ref a10, .ref a11, .int 0])), (a0, .inl (C 0, 600, .inl ((upd f0 (Int32.toNatClampNeg 0) kd)))), (a1, .inl (C 0, 600, .inl ((upd f1 (Int32.toNatClampNeg 0) pa)))), (a2, .inl (C 1, 600, .inl ((upd f2 (Int32.toNatClampNeg 0) (vp_nar .boolean 1))))), (a3, .inl (C 0, 600, .inl ((upd f3 (Int32.toNatClampNeg 0) (-1)))))] := hD
  refine lv_aload_n hx hb dX3_add_59 rfl (lv_at hl 1 rfl) ?_
  refine lv_dup hx hb dX3_add_60 rfl ?_
  refine va_get (D := D) (ci := 3) (v := .int 0) (C := RX3) (T := TX3) (N := 14) hx hb ht inX3 hown hK hP 0 rfl rfl 7 (by decide) (ht _ m_213) (fun _ h9 => h9) rfl dX3_add_61 ?_
  refine lv_iconst (v := 1) hx hb dX3_add_64 (by decide) ?_
  refine lv_iadd hx hb dX3_add_65 ?_
  refine lv_topi (fun x_1 ex_1 => ?_)
  obtain rfl : x_1 = (1 : Int32) := ex_1.trans (by decide)
  refine va_put (D := D) (ci := 3) (v := .int 1) (ty := tyX3 7) (C := RX3) (T := TX3) (N := 14) hx hb ht inX3 tyX3 tyX3_ok nmX3 hown hK hP hD hS 0 rfl rfl 7 (by decide) (ht _ m_213) (fun _ h9 => h9) rfl (by decide +kernel) rfl rfl (Nat.le_of_ble_eq_true rfl) dX3_add_66 (fun H locs hP hD hS => ?_)
  have hP : va_P D vwCl [(h0, .inr (3, [.ref a0, .ref a1, .ref a2, .ref a3, .ref a4, .ref a5, .ref a6, .int 1, .ref a7, .ref a8, .ref a9, .ref a10, .ref a11, .int 0])), (a0, .inl (C 0, 600, .inl ((upd f0 (Int32.toNatClampNeg 0) kd)))), (a1, .inl (C 0, 600, .inl ((upd f1 (Int32.toNatClampNeg 0) pa)))), (a2, .inl (C 1, 600, .inl ((upd f2 (Int32.toNatClampNeg 0) (vp_nar .boolean 1))))), (a3, .inl (C 0, 600, .inl ((upd f3 (Int32.toNatClampNeg 0) (-1)))))] H := hP
  have hD : va_D A [(h0, .inr (3, [.ref a0, .ref a1, .ref a2, .ref a3, .ref a4, .ref a5, .ref a6, .int 1, .ref a7, .ref a8, .ref a9, .ref a10, .ref a11, .int 0])), (a0, .inl (C 0, 600, .inl ((upd f0 (Int32.toNatClampNeg 0) kd)))), (a1, .inl (C 0, 600, .inl ((upd f1 (Int32.toNatClampNeg 0) pa)))), (a2, .inl (C 1, 600, .inl ((upd f2 (Int32.toNatClampNeg 0) (vp_nar .boolean 1))))), (a3, .inl (C 0, 600, .inl ((upd f3 (Int32.toNatClampNeg 0) (-1)))))] := hD
  refine lv_bipush (v := (-2)) hx hb dX3_add_69 (by decide) ?_
  refine lv_iload_n hx hb dX3_add_71 rfl (lv_at hl 0 rfl) ?_
  refine lv_isub hx hb dX3_add_72 ?_
  refine lv_topi (fun x_2 ex_2 => ?_)
  obtain rfl : x_2 = (-2 : Int32) := ex_2.trans (by decide)
  have hP9 := hP.sub (ws' := [(h0, .inr (3, [.ref a0, .ref a1, .ref a2, .ref a3, .ref a4, .ref a5, .ref a6, .int 1, .ref a7, .ref a8, .ref a9, .ref a10, .ref a11, .int 0])), (a0, .inl (C 0, 600, .inl ((upd f0 (Int32.toNatClampNeg 0) kd)))), (a1, .inl (C 0, 600, .inl ((upd f1 (Int32.toNatClampNeg 0) pa)))), (a2, .inl (C 1, 600, .inl ((upd f2 (Int32.toNatClampNeg 0) (vp_nar .boolean 1))))), (a3, .inl (C 0, 600, .inl ((upd f3 (Int32.toNatClampNeg 0) (-1)))))]) [0, 1, 2, 3, 4] rfl
  have hD9 := hD.sub (ws' := [(h0, .inr (3, [.ref a0, .ref a1, .ref a2, .ref a3, .ref a4, .ref a5, .ref a6, .int 1, .ref a7, .ref a8, .ref a9, .ref a10, .ref a11, .int 0])), (a0, .inl (C 0, 600, .inl ((upd f0 (Int32.toNatClampNeg 0) kd)))), (a1, .inl (C 0, 600, .inl ((upd f1 (Int32.toNatClampNeg 0) pa)))), (a2, .inl (C 1, 600, .inl ((upd f2 (Int32.toNatClampNeg 0) (vp_nar .boolean 1))))), (a3, .inl (C 0, 600, .inl ((upd f3 (Int32.toNatClampNeg 0) (-1)))))]) [0, 1, 2, 3, 4] (by decide) rfl
  refine W.widen (k := 0) (n := 0) (by decide) (by decide) ?_
  exact W.iret (v := (-2)) hx hb hr (fun t ht1 hW => ⟨⟨(-2), (xA [], xF [(upd f0 (Int32.toNatClampNeg 0) kd), (upd f1 (Int32.toNatClampNeg 0) pa), (upd f2 (Int32.toNatClampNeg 0) (vp_nar .boolean 1)), (upd f3 (Int32.toNatClampNeg 0) (-1))]), rfl, ⟨rfl, x_u0 (f := f3) (x := -1)⟩, by rw [ht1]; exact hP9, hD9⟩, hS.F ht1⟩) hS.2.2 dX3_add_73
set_option maxHeartbeats 4000000 in
set_option maxRecDepth 100000 in
theorem k3_addOrdinary (l : Launch) (D : va_G) (C : Nat → ClassId) (b0 sz : Nat) (h0 : Nat) (a0 : Nat) (a1 : Nat) (a2 : Nat) (a3 : Nat) (a4 : Nat) (a5 : Nat) (a6 : Nat) (a7 : Nat) (a8 : Nat) (a9 : Nat) (a10 : Nat) (a11 : Nat) (f0 : Nat → Int32) (f1 : Nat → Int32) (f2 : Nat → Int32) (f3 : Nat → Int32) (pa : Int32) : Met l yX3_addOrdinary (xw yX3_addOrdinary cX3_addOrdinary 2 (some .int)) ({ frames := 16, cells := 0, slots := 0, locals := 300 }) (xPc D C b0 [.ref h0, .int pa] [(h0, .inr (3, [.ref a0, .ref a1, .ref a2, .ref a3, .ref a4, .ref a5, .ref a6, .int 0, .ref a7, .ref a8, .ref a9, .ref a10, .ref a11, .int 0])), (a0, .inl (C 0, 600, .inl f0)), (a1, .inl (C 0, 600, .inl f1)), (a2, .inl (C 1, 600, .inl f2)), (a3, .inl (C 0, 600, .inl f3))] sz) (va_Qi (fun (r : Int32) (u : xS) => r = -2) (xBw D (va_A [(h0, .inr (3, [.ref a0, .ref a1, .ref a2, .ref a3, .ref a4, .ref a5, .ref a6, .int 0, .ref a7, .ref a8, .ref a9, .ref a10, .ref a11, .int 0])), (a0, .inl (C 0, 600, .inl f0)), (a1, .inl (C 0, 600, .inl f1)), (a2, .inl (C 1, 600, .inl f2)), (a3, .inl (C 0, 600, .inl f3))] sz) (fun u => [])) (va_A [(h0, .inr (3, [.ref a0, .ref a1, .ref a2, .ref a3, .ref a4, .ref a5, .ref a6, .int 0, .ref a7, .ref a8, .ref a9, .ref a10, .ref a11, .int 0])), (a0, .inl (C 0, 600, .inl f0)), (a1, .inl (C 0, 600, .inl f1)), (a2, .inl (C 1, 600, .inl f2)), (a3, .inl (C 0, 600, .inl f3))] sz)) 0 0 (va_A [(h0, .inr (3, [.ref a0, .ref a1, .ref a2, .ref a3, .ref a4, .ref a5, .ref a6, .int 0, .ref a7, .ref a8, .ref a9, .ref a10, .ref a11, .int 0])), (a0, .inl (C 0, 600, .inl f0)), (a1, .inl (C 0, 600, .inl f1)), (a2, .inl (C 1, 600, .inl f2)), (a3, .inl (C 0, 600, .inl f3))] sz) := by
  refine Met.ofW (cc := cX3_addOrdinary) (maxL := 2) (ret := (some .int)) (by decide) rfl ?_
  intro p e s m args below meth c s₁ B hml hv
  obtain ⟨rfl, hsz, hP, hK, hD0, hE⟩ := hv
  have hx := B.exec
  have hb := B.bytes
  have hr := B.returns
  have ht : ∀ w ∈ xb, w.before _ s = true := fun w h => atoms_spec (ws := xw yX3_addOrdinary cX3_addOrdinary 2 (some .int)) B.pre w (List.mem_cons_of_mem _ h)
  have hown : s.vm.findClass RX3 = some m.cls := findClass_of_methodNamed B.named
  have hlocks := B.notSynchronized
  subst hsz
  have hAb := x_Ab hD0 hE.1
  have hD := hD0.self (sz := s.heap.size)
  generalize hAe : va_A [(h0, .inr (3, [.ref a0, .ref a1, .ref a2, .ref a3, .ref a4, .ref a5, .ref a6, .int 0, .ref a7, .ref a8, .ref a9, .ref a10, .ref a11, .int 0])), (a0, .inl (C 0, 600, .inl f0)), (a1, .inl (C 0, 600, .inl f1)), (a2, .inl (C 1, 600, .inl f2)), (a3, .inl (C 0, 600, .inl f3))] s.heap.size = A at hD hAb ⊢
  have hA : ∀ q : Nat, s.heap.size ≤ q → A q := fun q h => by rw [← hAe]; exact Or.inr h
  have hS : va_S A s.heap s.heap [] := va_S.rf
  have hP : va_P D vwCl [(h0, .inr (3, [.ref a0, .ref a1, .ref a2, .ref a3, .ref a4, .ref a5, .ref a6, .int 0, .ref a7, .ref a8, .ref a9, .ref a10, .ref a11, .int 0])), (a0, .inl (C 0, 600, .inl f0)), (a1, .inl (C 0, 600, .inl f1)), (a2, .inl (C 1, 600, .inl f2)), (a3, .inl (C 0, 600, .inl f3))] s.heap := hP
  have hl := lv_entry ([.ref h0, .int pa]) (n := 2) (Nat.le_of_ble_eq_true rfl)
  rw [lg_entry_eq]
  generalize (lg_sl ([.ref h0, .int pa]) ++ List.replicate (2 - (lg_sl ([.ref h0, .int pa])).length) Slot.unset).toArray = ls at hl ⊢
  have hl : lv_has ls 2 [(0, .ref h0), (1, .int pa)] := hl
  refine lv_aload_n hx hb dX3_addOrdinary_0 rfl (lv_at hl 0 rfl) ?_
  refine lv_iconst (v := 1) hx hb dX3_addOrdinary_1 (by decide) ?_
  refine lv_iload_n hx hb dX3_addOrdinary_2 rfl (lv_at hl 1 rfl) ?_
  have hPc := hP.sub (ws' := [(h0, .inr (3, [.ref a0, .ref a1, .ref a2, .ref a3, .ref a4, .ref a5, .ref a6, .int 0, .ref a7, .ref a8, .ref a9, .ref a10, .ref a11, .int 0])), (a0, .inl (C 0, 600, .inl f0)), (a1, .inl (C 0, 600, .inl f1)), (a2, .inl (C 1, 600, .inl f2)), (a3, .inl (C 0, 600, .inl f3))]) [0, 1, 2, 3, 4] rfl
  have hDc := hD.sub (ws' := [(h0, .inr (3, [.ref a0, .ref a1, .ref a2, .ref a3, .ref a4, .ref a5, .ref a6, .int 0, .ref a7, .ref a8, .ref a9, .ref a10, .ref a11, .int 0])), (a0, .inl (C 0, 600, .inl f0)), (a1, .inl (C 0, 600, .inl f1)), (a2, .inl (C 1, 600, .inl f2)), (a3, .inl (C 0, 600, .inl f3))]) [0, 1, 2, 3, 4] (by decide) rfl
  have hFc := va_free (wc := [(h0, .inr (3, [.ref a0, .ref a1, .ref a2, .ref a3, .ref a4, .ref a5, .ref a6, .int 0, .ref a7, .ref a8, .ref a9, .ref a10, .ref a11, .int 0])), (a0, .inl (C 0, 600, .inl f0)), (a1, .inl (C 0, 600, .inl f1)), (a2, .inl (C 1, 600, .inl f2)), (a3, .inl (C 0, 600, .inl f3))]) hD hS hA [0, 1, 2, 3, 4] rfl
  refine va_calli (va_runV (As := [.int 1, .int pa]) (rest := []) ⟨hx, hb, hml, hown, ht⟩ (k3_add l D C b0 s.heap.size h0 a0 a1 a2 a3 a4 a5 a6 a7 a8 a9 a10 a11 f0 f1 f2 f3 1 pa) (cwV 2 ht (xg_V m_245 m_246 m_247 m_217 m_167) rfl rfl rfl (by decide +kernel) ⟨Nat.le_of_ble_eq_true rfl, Nat.le_of_ble_eq_true rfl⟩) ⟨xPc_bl, va_recv hK hPc (ci := 3) (q0 := 0) rfl rfl, xPc_at hPc hK hDc hE hS hAb⟩ rfl rfl hl.1 rfl (lv_room (Nat.le_of_ble_eq_true rfl)) dX3_addOrdinary_3 ⟨(by decide), (by decide)⟩) hS (fun q _ h => hFc q h) hFc (fun r_1 u_2 t H1 locs ht1 hvm hw hB hz1 hk1 hS => ?_)
  obtain ⟨hP1, hD1⟩ := hB
  rw [ht1] at hP1
  try dsimp only at hw
  obtain ⟨hP, hD⟩ := va_join (wr := []) (w1 := [(h0, .inr (3, [.ref a0, .ref a1, .ref a2, .ref a3, .ref a4, .ref a5, .ref a6, .int 1, .ref a7, .ref a8, .ref a9, .ref a10, .ref a11, .int 0])), (a0, .inl (C 0, 600, .inl (u_2.2 0))), (a1, .inl (C 0, 600, .inl (u_2.2 1))), (a2, .inl (C 1, 600, .inl (u_2.2 2))), (a3, .inl (C 0, 600, .inl (u_2.2 3)))]) hP hD [0, 1, 2, 3, 4] [] rfl rfl (by decide) (by decide) hk1 hFc hP1 hD1
  generalize H1 = H at hP hS ⊢
  have hP : va_P D vwCl [(h0, .inr (3, [.ref a0, .ref a1, .ref a2, .ref a3, .ref a4, .ref a5, .ref a6, .int 1, .ref a7, .ref a8, .ref a9, .ref a10, .ref a11, .int 0])), (a0, .inl (C 0, 600, .inl (u_2.2 0))), (a1, .inl (C 0, 600, .inl (u_2.2 1))), (a2, .inl (C 1, 600, .inl (u_2.2 2))), (a3, .inl (C 0, 600, .inl (u_2.2 3)))] H := hP
  have hD : va_D A [(h0, .inr (3, [.ref a0, .ref a1, .ref a2, .ref a3, .ref a4, .ref a5, .ref a6, .int 1, .ref a7, .ref a8, .ref a9, .ref a10, .ref a11, .int 0])), (a0, .inl (C 0, 600, .inl (u_2.2 0))), (a1, .inl (C 0, 600, .inl (u_2.2 1))), (a2, .inl (C 1, 600, .inl (u_2.2 2))), (a3, .inl (C 0, 600, .inl (u_2.2 3)))] := hD
  have hq_3 := hw
  obtain rfl : r_1 = (-2 : Int32) := hw.1
  have hP9 := hP.sub (ws' := []) [] rfl
  have hD9 := hD.sub (ws' := []) [] (by decide) rfl
  refine W.widen (k := 0) (n := 0) (by decide) (by decide) ?_
  exact W.iret (v := (-2)) hx hb hr (fun t ht1 hW => ⟨⟨(-2), (xA [], xF []), rfl, by first | trivial | rfl | assumption | decide | (simp_all; done), by rw [ht1]; exact hP9, hD9⟩, hS.F ht1⟩) hS.2.2 dX3_addOrdinary_6
set_option maxHeartbeats 4000000 in
set_option maxRecDepth 100000 in
theorem k3_firstSlotOf (l : Launch) (D : va_G) (C : Nat → ClassId) (b0 sz : Nat) (h0 : Nat) (a0 : Nat) (a1 : Nat) (a2 : Nat) (a3 : Nat) (a4 : Nat) (a5 : Nat) (a6 : Nat) (a7 : Nat) (a8 : Nat) (a9 : Nat) (a10 : Nat) (a11 : Nat) (f3 : Nat → Int32) (ff : Int32) (h3 : f3 0 = -1) : Met l yX3_firstSlotOf (xw yX3_firstSlotOf cX3_firstSlotOf 3 (some .int)) ({ frames := 16, cells := 0, slots := 0, locals := 300 }) (xPc D C b0 [.ref h0, .int (-2)] [(h0, .inr (3, [.ref a0, .ref a1, .ref a2, .ref a3, .ref a4, .ref a5, .ref a6, .int 1, .ref a7, .ref a8, .ref a9, .ref a10, .ref a11, .int ff])), (a3, .inl (C 0, 600, .inl f3))] sz) (va_Qi (fun (r : Int32) (u : xS) => r = -1) (xBw D (va_A [(h0, .inr (3, [.ref a0, .ref a1, .ref a2, .ref a3, .ref a4, .ref a5, .ref a6, .int 1, .ref a7, .ref a8, .ref a9, .ref a10, .ref a11, .int ff])), (a3, .inl (C 0, 600, .inl f3))] sz) (fun u => [(h0, .inr (3, [.ref a0, .ref a1, .ref a2, .ref a3, .ref a4, .ref a5, .ref a6, .int 1, .ref a7, .ref a8, .ref a9, .ref a10, .ref a11, .int ff])), (a3, .inl (C 0, 600, .inl f3))])) (va_A [(h0, .inr (3, [.ref a0, .ref a1, .ref a2, .ref a3, .ref a4, .ref a5, .ref a6, .int 1, .ref a7, .ref a8, .ref a9, .ref a10, .ref a11, .int ff])), (a3, .inl (C 0, 600, .inl f3))] sz)) 0 0 (va_A [(h0, .inr (3, [.ref a0, .ref a1, .ref a2, .ref a3, .ref a4, .ref a5, .ref a6, .int 1, .ref a7, .ref a8, .ref a9, .ref a10, .ref a11, .int ff])), (a3, .inl (C 0, 600, .inl f3))] sz) := by
  refine Met.ofW (cc := cX3_firstSlotOf) (maxL := 3) (ret := (some .int)) (by decide) rfl ?_
  intro p e s m args below meth c s₁ B hml hv
  obtain ⟨rfl, hsz, hP, hK, hD0, hE⟩ := hv
  have hx := B.exec
  have hb := B.bytes
  have hr := B.returns
  have ht : ∀ w ∈ xb, w.before _ s = true := fun w h => atoms_spec (ws := xw yX3_firstSlotOf cX3_firstSlotOf 3 (some .int)) B.pre w (List.mem_cons_of_mem _ h)
  have hown : s.vm.findClass RX3 = some m.cls := findClass_of_methodNamed B.named
  have hlocks := B.notSynchronized
  subst hsz
  have hAb := x_Ab hD0 hE.1
  have hD := hD0.self (sz := s.heap.size)
  generalize hAe : va_A [(h0, .inr (3, [.ref a0, .ref a1, .ref a2, .ref a3, .ref a4, .ref a5, .ref a6, .int 1, .ref a7, .ref a8, .ref a9, .ref a10, .ref a11, .int ff])), (a3, .inl (C 0, 600, .inl f3))] s.heap.size = A at hD hAb ⊢
  have hA : ∀ q : Nat, s.heap.size ≤ q → A q := fun q h => by rw [← hAe]; exact Or.inr h
  have hS : va_S A s.heap s.heap [] := va_S.rf
  have hP : va_P D vwCl [(h0, .inr (3, [.ref a0, .ref a1, .ref a2, .ref a3, .ref a4, .ref a5, .ref a6, .int 1, .ref a7, .ref a8, .ref a9, .ref a10, .ref a11, .int ff])), (a3, .inl (C 0, 600, .inl f3))] s.heap := hP
  have hl := lv_entry ([.ref h0, .int (-2)]) (n := 3) (Nat.le_of_ble_eq_true rfl)
  rw [lg_entry_eq]
  generalize (lg_sl ([.ref h0, .int (-2)]) ++ List.replicate (3 - (lg_sl ([.ref h0, .int (-2)])).length) Slot.unset).toArray = ls at hl ⊢
  have hl : lv_has ls 3 [(0, .ref h0), (1, .int (-2))] := hl
  refine lv_aload_n hx hb dX3_firstSlotOf_0 rfl (lv_at hl 0 rfl) ?_
  refine lv_iload_n hx hb dX3_firstSlotOf_1 rfl (lv_at hl 1 rfl) ?_
  have hPc := hP.sub (ws' := [(h0, .inr (3, [.ref a0, .ref a1, .ref a2, .ref a3, .ref a4, .ref a5, .ref a6, .int 1, .ref a7, .ref a8, .ref a9, .ref a10, .ref a11, .int ff]))]) [0] rfl
  have hDc := hD.sub (ws' := [(h0, .inr (3, [.ref a0, .ref a1, .ref a2, .ref a3, .ref a4, .ref a5, .ref a6, .int 1, .ref a7, .ref a8, .ref a9, .ref a10, .ref a11, .int ff]))]) [0] (by decide) rfl
  have hFc := va_free (wc := [(h0, .inr (3, [.ref a0, .ref a1, .ref a2, .ref a3, .ref a4, .ref a5, .ref a6, .int 1, .ref a7, .ref a8, .ref a9, .ref a10, .ref a11, .int ff]))]) hD hS hA [0] rfl
  refine va_calli (va_runV (As := [.int (-2)]) (rest := []) ⟨hx, hb, hml, hown, ht⟩ (k3_rowOf1 l D C b0 s.heap.size h0 a0 a1 a2 a3 a4 a5 a6 a7 a8 a9 a10 a11 ff) (cwV 1 ht (xg_V m_214 m_215 m_216 m_217 m_157) rfl rfl rfl (by decide +kernel) ⟨Nat.le_of_ble_eq_true rfl, Nat.le_of_ble_eq_true rfl⟩) ⟨xPc_bl, va_recv hK hPc (ci := 3) (q0 := 0) rfl rfl, xPc_at hPc hK hDc hE hS hAb⟩ rfl rfl hl.1 rfl (lv_room (Nat.le_of_ble_eq_true rfl)) dX3_firstSlotOf_2 ⟨(by decide), (by decide)⟩) hS (fun q _ h => hFc q h) hFc (fun r_1 u_2 t H1 locs ht1 hvm hw hB hz1 hk1 hS => ?_)
  obtain ⟨hP1, hD1⟩ := hB
  rw [ht1] at hP1
  try dsimp only at hw
  obtain ⟨hP, hD⟩ := va_join (wr := [(a3, .inl (C 0, 600, .inl f3))]) (w1 := [(h0, .inr (3, [.ref a0, .ref a1, .ref a2, .ref a3, .ref a4, .ref a5, .ref a6, .int 1, .ref a7, .ref a8, .ref a9, .ref a10, .ref a11, .int ff]))]) hP hD [0] [1] rfl rfl (by decide) (by decide) hk1 hFc hP1 hD1
  generalize H1 = H at hP hS ⊢
  have hP : va_P D vwCl [(a3, .inl (C 0, 600, .inl f3)), (h0, .inr (3, [.ref a0, .ref a1, .ref a2, .ref a3, .ref a4, .ref a5, .ref a6, .int 1, .ref a7, .ref a8, .ref a9, .ref a10, .ref a11, .int ff]))] H := hP
  have hD : va_D A [(a3, .inl (C 0, 600, .inl f3)), (h0, .inr (3, [.ref a0, .ref a1, .ref a2, .ref a3, .ref a4, .ref a5, .ref a6, .int 1, .ref a7, .ref a8, .ref a9, .ref a10, .ref a11, .int ff]))] := hD
  have hq_2 := hw
  obtain rfl : r_1 = (0 : Int32) := hw
  refine lv_istore_n (lv' := [(2, .int 0), (0, .ref h0), (1, .int (-2))]) hx hb dX3_firstSlotOf_5 rfl hl (by decide) rfl (fun ls hl => ?_)
  refine lv_iload_n hx hb dX3_firstSlotOf_6 rfl (lv_at hl 0 rfl) ?_
  refine lv_if_lt (tgt := 19) hx hb dX3_firstSlotOf_7 (by decide) (fun c_7 => ?_) (fun c_7 => ?_)
  · exact absurd c_7 (by decide)
  refine lv_aload_n hx hb dX3_firstSlotOf_10 rfl (lv_at hl 1 rfl) ?_
  refine va_get (D := D) (ci := 3) (v := .ref a3) (C := RX3) (T := TX3) (N := 14) hx hb ht inX3 hown hK hP 1 rfl rfl 3 (by decide) (ht _ m_244) (fun _ h9 => h9) rfl dX3_firstSlotOf_11 ?_
  refine lv_iload_n hx hb dX3_firstSlotOf_14 rfl (lv_at hl 0 rfl) ?_
  refine va_iald hx hb hK hP 0 0 rfl rfl (by unfold vp_in; decide) dX3_firstSlotOf_15 ?_
  refine lv_topi (fun x_3 ex_3 => ?_)
  obtain rfl : x_3 = (-1 : Int32) := ex_3.trans (x_at0 h3)
  refine lv_goto (tgt := 20) hx hb dX3_firstSlotOf_16 (by decide) ?_
  have hP9 := hP.sub (ws' := [(h0, .inr (3, [.ref a0, .ref a1, .ref a2, .ref a3, .ref a4, .ref a5, .ref a6, .int 1, .ref a7, .ref a8, .ref a9, .ref a10, .ref a11, .int ff])), (a3, .inl (C 0, 600, .inl f3))]) [1, 0] rfl
  have hD9 := hD.sub (ws' := [(h0, .inr (3, [.ref a0, .ref a1, .ref a2, .ref a3, .ref a4, .ref a5, .ref a6, .int 1, .ref a7, .ref a8, .ref a9, .ref a10, .ref a11, .int ff])), (a3, .inl (C 0, 600, .inl f3))]) [1, 0] (by decide) rfl
  refine W.widen (k := 0) (n := 0) (by decide) (by decide) ?_
  exact W.iret (v := (-1)) hx hb hr (fun t ht1 hW => ⟨⟨(-1), (xA [], xF []), rfl, by first | trivial | rfl | assumption | decide | (simp_all; done), by rw [ht1]; exact hP9, hD9⟩, hS.F ht1⟩) hS.2.2 dX3_firstSlotOf_20
set_option maxHeartbeats 4000000 in
set_option maxRecDepth 100000 in
theorem k3_slotBefore (l : Launch) (D : va_G) (C : Nat → ClassId) (b0 sz : Nat) (h0 : Nat) (a0 : Nat) (a1 : Nat) (a2 : Nat) (a3 : Nat) (a4 : Nat) (a5 : Nat) (a6 : Nat) (a7 : Nat) (a8 : Nat) (a9 : Nat) (a10 : Nat) (a11 : Nat) (ff : Int32) (ky : Int32) : Met l yX3_slotBefore (xw yX3_slotBefore cX3_slotBefore 6 (some .int)) ({ frames := 8, cells := 0, slots := 0, locals := 150 }) (xPc D C b0 [.ref h0, .int (-1), .int ky] [(h0, .inr (3, [.ref a0, .ref a1, .ref a2, .ref a3, .ref a4, .ref a5, .ref a6, .int 1, .ref a7, .ref a8, .ref a9, .ref a10, .ref a11, .int ff]))] sz) (va_Qi (fun (r : Int32) (u : xS) => r = -1) (xBw D (va_A [(h0, .inr (3, [.ref a0, .ref a1, .ref a2, .ref a3, .ref a4, .ref a5, .ref a6, .int 1, .ref a7, .ref a8, .ref a9, .ref a10, .ref a11, .int ff]))] sz) (fun u => [(h0, .inr (3, [.ref a0, .ref a1, .ref a2, .ref a3, .ref a4, .ref a5, .ref a6, .int 1, .ref a7, .ref a8, .ref a9, .ref a10, .ref a11, .int ff]))])) (va_A [(h0, .inr (3, [.ref a0, .ref a1, .ref a2, .ref a3, .ref a4, .ref a5, .ref a6, .int 1, .ref a7, .ref a8, .ref a9, .ref a10, .ref a11, .int ff]))] sz)) 0 0 (va_A [(h0, .inr (3, [.ref a0, .ref a1, .ref a2, .ref a3, .ref a4, .ref a5, .ref a6, .int 1, .ref a7, .ref a8, .ref a9, .ref a10, .ref a11, .int ff]))] sz) := by
  refine Met.ofW (cc := cX3_slotBefore) (maxL := 6) (ret := (some .int)) (by decide) rfl ?_
  intro p e s m args below meth c s₁ B hml hv
  obtain ⟨rfl, hsz, hP, hK, hD0, hE⟩ := hv
  have hx := B.exec
  have hb := B.bytes
  have hr := B.returns
  have ht : ∀ w ∈ xb, w.before _ s = true := fun w h => atoms_spec (ws := xw yX3_slotBefore cX3_slotBefore 6 (some .int)) B.pre w (List.mem_cons_of_mem _ h)
  have hown : s.vm.findClass RX3 = some m.cls := findClass_of_methodNamed B.named
  have hlocks := B.notSynchronized
  subst hsz
  have hAb := x_Ab hD0 hE.1
  have hD := hD0.self (sz := s.heap.size)
  generalize hAe : va_A [(h0, .inr (3, [.ref a0, .ref a1, .ref a2, .ref a3, .ref a4, .ref a5, .ref a6, .int 1, .ref a7, .ref a8, .ref a9, .ref a10, .ref a11, .int ff]))] s.heap.size = A at hD hAb ⊢
  have hA : ∀ q : Nat, s.heap.size ≤ q → A q := fun q h => by rw [← hAe]; exact Or.inr h
  have hS : va_S A s.heap s.heap [] := va_S.rf
  have hP : va_P D vwCl [(h0, .inr (3, [.ref a0, .ref a1, .ref a2, .ref a3, .ref a4, .ref a5, .ref a6, .int 1, .ref a7, .ref a8, .ref a9, .ref a10, .ref a11, .int ff]))] s.heap := hP
  have hl := lv_entry ([.ref h0, .int (-1), .int ky]) (n := 6) (Nat.le_of_ble_eq_true rfl)
  rw [lg_entry_eq]
  generalize (lg_sl ([.ref h0, .int (-1), .int ky]) ++ List.replicate (6 - (lg_sl ([.ref h0, .int (-1), .int ky])).length) Slot.unset).toArray = ls at hl ⊢
  have hl : lv_has ls 6 [(0, .ref h0), (1, .int (-1)), (2, .int ky)] := hl
  refine lv_iconst (v := (-1)) hx hb dX3_slotBefore_0 (by decide) ?_
  refine lv_istore_n (lv' := [(3, .int (-1)), (0, .ref h0), (1, .int (-1)), (2, .int ky)]) hx hb dX3_slotBefore_1 rfl hl (by decide) rfl (fun ls hl => ?_)
  refine lv_iload_n hx hb dX3_slotBefore_2 rfl (lv_at hl 2 rfl) ?_
  refine lv_istore (lv' := [(4, .int (-1)), (3, .int (-1)), (0, .ref h0), (1, .int (-1)), (2, .int ky)]) hx hb dX3_slotBefore_3 hl (by decide) rfl (fun ls hl => ?_)
  refine lv_iconst (v := 0) hx hb dX3_slotBefore_5 (by decide) ?_
  refine lv_istore (lv' := [(5, .int 0), (4, .int (-1)), (3, .int (-1)), (0, .ref h0), (1, .int (-1)), (2, .int ky)]) hx hb dX3_slotBefore_6 hl (by decide) rfl (fun ls hl => ?_)
  refine lv_iload hx hb dX3_slotBefore_8 (lv_at hl 0 rfl) ?_
  refine lv_sipush (v := 250) hx hb dX3_slotBefore_10 (by decide) ?_
  refine lv_icmp_ge (tgt := 63) hx hb dX3_slotBefore_13 (by decide) (fun c_13 => ?_) (fun c_13 => ?_)
  · exact absurd c_13 (by decide)
  refine lv_iload hx hb dX3_slotBefore_16 (lv_at hl 1 rfl) ?_
  refine lv_if_lt (tgt := 63) hx hb dX3_slotBefore_18 (by decide) (fun c_18 => ?_) (fun c_18 => ?_)
  rotate_left
  · exact absurd c_18 (by decide)
  refine lv_iload_n hx hb dX3_slotBefore_63 rfl (lv_at hl 2 rfl) ?_
  have hP9 := hP.sub (ws' := [(h0, .inr (3, [.ref a0, .ref a1, .ref a2, .ref a3, .ref a4, .ref a5, .ref a6, .int 1, .ref a7, .ref a8, .ref a9, .ref a10, .ref a11, .int ff]))]) [0] rfl
  have hD9 := hD.sub (ws' := [(h0, .inr (3, [.ref a0, .ref a1, .ref a2, .ref a3, .ref a4, .ref a5, .ref a6, .int 1, .ref a7, .ref a8, .ref a9, .ref a10, .ref a11, .int ff]))]) [0] (by decide) rfl
  refine W.widen (k := 0) (n := 0) (by decide) (by decide) ?_
  exact W.iret (v := (-1)) hx hb hr (fun t ht1 hW => ⟨⟨(-1), (xA [], xF []), rfl, by first | trivial | rfl | assumption | decide | (simp_all; done), by rw [ht1]; exact hP9, hD9⟩, hS.F ht1⟩) hS.2.2 dX3_slotBefore_64
set_option maxHeartbeats 4000000 in
set_option maxRecDepth 100000 in
theorem k3_link (l : Launch) (D : va_G) (C : Nat → ClassId) (b0 sz : Nat) (h0 : Nat) (a0 : Nat) (a1 : Nat) (a2 : Nat) (a3 : Nat) (a4 : Nat) (a5 : Nat) (a6 : Nat) (a7 : Nat) (a8 : Nat) (a9 : Nat) (a10 : Nat) (a11 : Nat) (f3 : Nat → Int32) (ff : Int32) : Met l yX3_link (xw yX3_link cX3_link 5 none) ({ frames := 16, cells := 0, slots := 0, locals := 300 }) (xPc D C b0 [.ref h0, .int (-2), .int (-1), .int 0] [(h0, .inr (3, [.ref a0, .ref a1, .ref a2, .ref a3, .ref a4, .ref a5, .ref a6, .int 1, .ref a7, .ref a8, .ref a9, .ref a10, .ref a11, .int ff])), (a3, .inl (C 0, 600, .inl f3))] sz) (va_Qv (fun u : xS => True) (xBw D (va_A [(h0, .inr (3, [.ref a0, .ref a1, .ref a2, .ref a3, .ref a4, .ref a5, .ref a6, .int 1, .ref a7, .ref a8, .ref a9, .ref a10, .ref a11, .int ff])), (a3, .inl (C 0, 600, .inl f3))] sz) (fun u => [(h0, .inr (3, [.ref a0, .ref a1, .ref a2, .ref a3, .ref a4, .ref a5, .ref a6, .int 1, .ref a7, .ref a8, .ref a9, .ref a10, .ref a11, .int ff])), (a3, .inl (C 0, 600, .inl (u.2 0)))])) (va_A [(h0, .inr (3, [.ref a0, .ref a1, .ref a2, .ref a3, .ref a4, .ref a5, .ref a6, .int 1, .ref a7, .ref a8, .ref a9, .ref a10, .ref a11, .int ff])), (a3, .inl (C 0, 600, .inl f3))] sz)) 0 0 (va_A [(h0, .inr (3, [.ref a0, .ref a1, .ref a2, .ref a3, .ref a4, .ref a5, .ref a6, .int 1, .ref a7, .ref a8, .ref a9, .ref a10, .ref a11, .int ff])), (a3, .inl (C 0, 600, .inl f3))] sz) := by
  refine Met.ofW (cc := cX3_link) (maxL := 5) (ret := none) (by decide) rfl ?_
  intro p e s m args below meth c s₁ B hml hv
  obtain ⟨rfl, hsz, hP, hK, hD0, hE⟩ := hv
  have hx := B.exec
  have hb := B.bytes
  have hr := B.returns
  have ht : ∀ w ∈ xb, w.before _ s = true := fun w h => atoms_spec (ws := xw yX3_link cX3_link 5 none) B.pre w (List.mem_cons_of_mem _ h)
  have hown : s.vm.findClass RX3 = some m.cls := findClass_of_methodNamed B.named
  have hlocks := B.notSynchronized
  subst hsz
  have hAb := x_Ab hD0 hE.1
  have hD := hD0.self (sz := s.heap.size)
  generalize hAe : va_A [(h0, .inr (3, [.ref a0, .ref a1, .ref a2, .ref a3, .ref a4, .ref a5, .ref a6, .int 1, .ref a7, .ref a8, .ref a9, .ref a10, .ref a11, .int ff])), (a3, .inl (C 0, 600, .inl f3))] s.heap.size = A at hD hAb ⊢
  have hA : ∀ q : Nat, s.heap.size ≤ q → A q := fun q h => by rw [← hAe]; exact Or.inr h
  have hS : va_S A s.heap s.heap [] := va_S.rf
  have hP : va_P D vwCl [(h0, .inr (3, [.ref a0, .ref a1, .ref a2, .ref a3, .ref a4, .ref a5, .ref a6, .int 1, .ref a7, .ref a8, .ref a9, .ref a10, .ref a11, .int ff])), (a3, .inl (C 0, 600, .inl f3))] s.heap := hP
  have hl := lv_entry ([.ref h0, .int (-2), .int (-1), .int 0]) (n := 5) (Nat.le_of_ble_eq_true rfl)
  rw [lg_entry_eq]
  generalize (lg_sl ([.ref h0, .int (-2), .int (-1), .int 0]) ++ List.replicate (5 - (lg_sl ([.ref h0, .int (-2), .int (-1), .int 0])).length) Slot.unset).toArray = ls at hl ⊢
  have hl : lv_has ls 5 [(0, .ref h0), (1, .int (-2)), (2, .int (-1)), (3, .int 0)] := hl
  refine lv_aload_n hx hb dX3_link_0 rfl (lv_at hl 0 rfl) ?_
  refine lv_iload_n hx hb dX3_link_1 rfl (lv_at hl 1 rfl) ?_
  have hPc := hP.sub (ws' := [(h0, .inr (3, [.ref a0, .ref a1, .ref a2, .ref a3, .ref a4, .ref a5, .ref a6, .int 1, .ref a7, .ref a8, .ref a9, .ref a10, .ref a11, .int ff]))]) [0] rfl
  have hDc := hD.sub (ws' := [(h0, .inr (3, [.ref a0, .ref a1, .ref a2, .ref a3, .ref a4, .ref a5, .ref a6, .int 1, .ref a7, .ref a8, .ref a9, .ref a10, .ref a11, .int ff]))]) [0] (by decide) rfl
  have hFc := va_free (wc := [(h0, .inr (3, [.ref a0, .ref a1, .ref a2, .ref a3, .ref a4, .ref a5, .ref a6, .int 1, .ref a7, .ref a8, .ref a9, .ref a10, .ref a11, .int ff]))]) hD hS hA [0] rfl
  refine va_calli (va_runV (As := [.int (-2)]) (rest := []) ⟨hx, hb, hml, hown, ht⟩ (k3_rowOf1 l D C b0 s.heap.size h0 a0 a1 a2 a3 a4 a5 a6 a7 a8 a9 a10 a11 ff) (cwV 1 ht (xg_V m_214 m_215 m_216 m_217 m_157) rfl rfl rfl (by decide +kernel) ⟨Nat.le_of_ble_eq_true rfl, Nat.le_of_ble_eq_true rfl⟩) ⟨xPc_bl, va_recv hK hPc (ci := 3) (q0 := 0) rfl rfl, xPc_at hPc hK hDc hE hS hAb⟩ rfl rfl hl.1 rfl (lv_room (Nat.le_of_ble_eq_true rfl)) dX3_link_2 ⟨(by decide), (by decide)⟩) hS (fun q _ h => hFc q h) hFc (fun r_1 u_2 t H1 locs ht1 hvm hw hB hz1 hk1 hS => ?_)
  obtain ⟨hP1, hD1⟩ := hB
  rw [ht1] at hP1
  try dsimp only at hw
  obtain ⟨hP, hD⟩ := va_join (wr := [(a3, .inl (C 0, 600, .inl f3))]) (w1 := [(h0, .inr (3, [.ref a0, .ref a1, .ref a2, .ref a3, .ref a4, .ref a5, .ref a6, .int 1, .ref a7, .ref a8, .ref a9, .ref a10, .ref a11, .int ff]))]) hP hD [0] [1] rfl rfl (by decide) (by decide) hk1 hFc hP1 hD1
  generalize H1 = H at hP hS ⊢
  have hP : va_P D vwCl [(a3, .inl (C 0, 600, .inl f3)), (h0, .inr (3, [.ref a0, .ref a1, .ref a2, .ref a3, .ref a4, .ref a5, .ref a6, .int 1, .ref a7, .ref a8, .ref a9, .ref a10, .ref a11, .int ff]))] H := hP
  have hD : va_D A [(a3, .inl (C 0, 600, .inl f3)), (h0, .inr (3, [.ref a0, .ref a1, .ref a2, .ref a3, .ref a4, .ref a5, .ref a6, .int 1, .ref a7, .ref a8, .ref a9, .ref a10, .ref a11, .int ff]))] := hD
  have hq_2 := hw
  obtain rfl : r_1 = (0 : Int32) := hw
  refine lv_istore (lv' := [(4, .int 0), (0, .ref h0), (1, .int (-2)), (2, .int (-1)), (3, .int 0)]) hx hb dX3_link_5 hl (by decide) rfl (fun ls hl => ?_)
  refine lv_aload_n hx hb dX3_link_7 rfl (lv_at hl 1 rfl) ?_
  refine lv_iload_n hx hb dX3_link_8 rfl (lv_at hl 3 rfl) ?_
  have hPc := hP.sub (ws' := [(h0, .inr (3, [.ref a0, .ref a1, .ref a2, .ref a3, .ref a4, .ref a5, .ref a6, .int 1, .ref a7, .ref a8, .ref a9, .ref a10, .ref a11, .int ff]))]) [1] rfl
  have hDc := hD.sub (ws' := [(h0, .inr (3, [.ref a0, .ref a1, .ref a2, .ref a3, .ref a4, .ref a5, .ref a6, .int 1, .ref a7, .ref a8, .ref a9, .ref a10, .ref a11, .int ff]))]) [1] (by decide) rfl
  have hFc := va_free (wc := [(h0, .inr (3, [.ref a0, .ref a1, .ref a2, .ref a3, .ref a4, .ref a5, .ref a6, .int 1, .ref a7, .ref a8, .ref a9, .ref a10, .ref a11, .int ff]))]) hD hS hA [1] rfl
  refine va_calli (va_runV (As := [.int (-1)]) (rest := []) ⟨hx, hb, hml, hown, ht⟩ (k3_isSlotN l D C b0 H.size h0 a0 a1 a2 a3 a4 a5 a6 a7 a8 a9 a10 a11 ff) (cwV 1 ht (xg_V m_248 m_249 m_250 m_217 m_166) rfl rfl rfl (by decide +kernel) ⟨Nat.le_of_ble_eq_true rfl, Nat.le_of_ble_eq_true rfl⟩) ⟨xPc_bl, va_recv hK hPc (ci := 3) (q0 := 0) rfl rfl, xPc_at hPc hK hDc hE hS hAb⟩ rfl rfl hl.1 rfl (lv_room (Nat.le_of_ble_eq_true rfl)) dX3_link_9 ⟨(by decide), (by decide)⟩) hS (fun q _ h => hFc q h) hFc (fun r_3 u_4 t H1 locs ht1 hvm hw hB hz1 hk1 hS => ?_)
  obtain ⟨hP1, hD1⟩ := hB
  rw [ht1] at hP1
  try dsimp only at hw
  obtain ⟨hP, hD⟩ := va_join (wr := [(a3, .inl (C 0, 600, .inl f3))]) (w1 := [(h0, .inr (3, [.ref a0, .ref a1, .ref a2, .ref a3, .ref a4, .ref a5, .ref a6, .int 1, .ref a7, .ref a8, .ref a9, .ref a10, .ref a11, .int ff]))]) hP hD [1] [0] rfl rfl (by decide) (by decide) hk1 hFc hP1 hD1
  generalize H1 = H at hP hS ⊢
  have hP : va_P D vwCl [(a3, .inl (C 0, 600, .inl f3)), (h0, .inr (3, [.ref a0, .ref a1, .ref a2, .ref a3, .ref a4, .ref a5, .ref a6, .int 1, .ref a7, .ref a8, .ref a9, .ref a10, .ref a11, .int ff]))] H := hP
  have hD : va_D A [(a3, .inl (C 0, 600, .inl f3)), (h0, .inr (3, [.ref a0, .ref a1, .ref a2, .ref a3, .ref a4, .ref a5, .ref a6, .int 1, .ref a7, .ref a8, .ref a9, .ref a10, .ref a11, .int ff]))] := hD
  have hq_9 := hw
  obtain rfl : r_3 = (0 : Int32) := hw
  refine lv_if_eq (tgt := 25) hx hb dX3_link_12 (by decide) (fun c_12 => ?_) (fun c_12 => ?_)
  rotate_left
  · exact absurd c_12 (by decide)
  refine lv_iload hx hb dX3_link_25 (lv_at hl 0 rfl) ?_
  refine lv_if_lt (tgt := 38) hx hb dX3_link_27 (by decide) (fun c_27 => ?_) (fun c_27 => ?_)
  · exact absurd c_27 (by decide)
  refine lv_aload_n hx hb dX3_link_30 rfl (lv_at hl 1 rfl) ?_
  refine va_get (D := D) (ci := 3) (v := .ref a3) (C := RX3) (T := TX3) (N := 14) hx hb ht inX3 hown hK hP 1 rfl rfl 3 (by decide) (ht _ m_244) (fun _ h9 => h9) rfl dX3_link_31 ?_
  refine lv_iload hx hb dX3_link_34 (lv_at hl 0 rfl) ?_
  refine lv_iload_n hx hb dX3_link_36 rfl (lv_at hl 4 rfl) ?_
  refine va_iast hx hb hK hP hD hS 0 0 rfl rfl (by unfold vp_in; decide) dX3_link_37 (fun H locs hP hD hS => ?_)
  have hP : va_P D vwCl [(a3, .inl (C 0, 600, .inl ((upd f3 (Int32.toNatClampNeg 0) 0)))), (h0, .inr (3, [.ref a0, .ref a1, .ref a2, .ref a3, .ref a4, .ref a5, .ref a6, .int 1, .ref a7, .ref a8, .ref a9, .ref a10, .ref a11, .int ff]))] H := hP
  have hD : va_D A [(a3, .inl (C 0, 600, .inl ((upd f3 (Int32.toNatClampNeg 0) 0)))), (h0, .inr (3, [.ref a0, .ref a1, .ref a2, .ref a3, .ref a4, .ref a5, .ref a6, .int 1, .ref a7, .ref a8, .ref a9, .ref a10, .ref a11, .int ff]))] := hD
  have hP9 := hP.sub (ws' := [(h0, .inr (3, [.ref a0, .ref a1, .ref a2, .ref a3, .ref a4, .ref a5, .ref a6, .int 1, .ref a7, .ref a8, .ref a9, .ref a10, .ref a11, .int ff])), (a3, .inl (C 0, 600, .inl ((upd f3 (Int32.toNatClampNeg 0) 0))))]) [1, 0] rfl
  have hD9 := hD.sub (ws' := [(h0, .inr (3, [.ref a0, .ref a1, .ref a2, .ref a3, .ref a4, .ref a5, .ref a6, .int 1, .ref a7, .ref a8, .ref a9, .ref a10, .ref a11, .int ff])), (a3, .inl (C 0, 600, .inl ((upd f3 (Int32.toNatClampNeg 0) 0))))]) [1, 0] (by decide) rfl
  refine W.widen (k := 0) (n := 0) (by decide) (by decide) ?_
  exact W.vret hx hb hr (fun t ht1 hW => ⟨⟨(xA [], xF [(upd f3 (Int32.toNatClampNeg 0) 0)]), rfl, by first | trivial | rfl | assumption | decide | (simp_all; done), by rw [ht1]; exact hP9, hD9⟩, hS.F ht1⟩) hS.2.2 dX3_link_38
set_option maxHeartbeats 4000000 in
set_option maxRecDepth 100000 in
theorem k3_append (l : Launch) (D : va_G) (C : Nat → ClassId) (b0 sz : Nat) (h0 : Nat) (a0 : Nat) (a1 : Nat) (a2 : Nat) (a3 : Nat) (a4 : Nat) (a5 : Nat) (a6 : Nat) (a7 : Nat) (a8 : Nat) (a9 : Nat) (a10 : Nat) (a11 : Nat) (f3 : Nat → Int32) (f7 : Nat → Int32) (f8 : Nat → Int32) (f9 : Nat → Int32) (f10 : Nat → Int32) (f11 : Nat → Int32) (ky : Int32) (h3 : f3 0 = -1) : Met l yX3_append (xw yX3_append cX3_append 6 (some .int)) ({ frames := 24, cells := 0, slots := 0, locals := 450 }) (xPc D C b0 [.ref h0, .int (-2), .int ky] [(h0, .inr (3, [.ref a0, .ref a1, .ref a2, .ref a3, .ref a4, .ref a5, .ref a6, .int 1, .ref a7, .ref a8, .ref a9, .ref a10, .ref a11, .int 0])), (a3, .inl (C 0, 600, .inl f3)), (a7, .inl (C 0, 5999, .inl f7)), (a8, .inl (C 0, 5999, .inl f8)), (a9, .inl (C 0, 5999, .inl f9)), (a10, .inl (C 0, 5999, .inl f10)), (a11, .inl (C 0, 5999, .inl f11))] sz) (va_Qi (fun (r : Int32) (u : xS) => r = 0) (xBw D (va_A [(h0, .inr (3, [.ref a0, .ref a1, .ref a2, .ref a3, .ref a4, .ref a5, .ref a6, .int 1, .ref a7, .ref a8, .ref a9, .ref a10, .ref a11, .int 0])), (a3, .inl (C 0, 600, .inl f3)), (a7, .inl (C 0, 5999, .inl f7)), (a8, .inl (C 0, 5999, .inl f8)), (a9, .inl (C 0, 5999, .inl f9)), (a10, .inl (C 0, 5999, .inl f10)), (a11, .inl (C 0, 5999, .inl f11))] sz) (fun u => [(h0, .inr (3, [.ref a0, .ref a1, .ref a2, .ref a3, .ref a4, .ref a5, .ref a6, .int 1, .ref a7, .ref a8, .ref a9, .ref a10, .ref a11, .int (u.2 6 0)])), (a3, .inl (C 0, 600, .inl (u.2 0))), (a7, .inl (C 0, 5999, .inl (u.2 1))), (a8, .inl (C 0, 5999, .inl (u.2 2))), (a9, .inl (C 0, 5999, .inl (u.2 3))), (a10, .inl (C 0, 5999, .inl (u.2 4))), (a11, .inl (C 0, 5999, .inl (u.2 5)))])) (va_A [(h0, .inr (3, [.ref a0, .ref a1, .ref a2, .ref a3, .ref a4, .ref a5, .ref a6, .int 1, .ref a7, .ref a8, .ref a9, .ref a10, .ref a11, .int 0])), (a3, .inl (C 0, 600, .inl f3)), (a7, .inl (C 0, 5999, .inl f7)), (a8, .inl (C 0, 5999, .inl f8)), (a9, .inl (C 0, 5999, .inl f9)), (a10, .inl (C 0, 5999, .inl f10)), (a11, .inl (C 0, 5999, .inl f11))] sz)) 0 0 (va_A [(h0, .inr (3, [.ref a0, .ref a1, .ref a2, .ref a3, .ref a4, .ref a5, .ref a6, .int 1, .ref a7, .ref a8, .ref a9, .ref a10, .ref a11, .int 0])), (a3, .inl (C 0, 600, .inl f3)), (a7, .inl (C 0, 5999, .inl f7)), (a8, .inl (C 0, 5999, .inl f8)), (a9, .inl (C 0, 5999, .inl f9)), (a10, .inl (C 0, 5999, .inl f10)), (a11, .inl (C 0, 5999, .inl f11))] sz) := by
  refine Met.ofW (cc := cX3_append) (maxL := 6) (ret := (some .int)) (by decide) rfl ?_
  intro p e s m args below meth c s₁ B hml hv
  obtain ⟨rfl, hsz, hP, hK, hD0, hE⟩ := hv
  have hx := B.exec
  have hb := B.bytes
  have hr := B.returns
  have ht : ∀ w ∈ xb, w.before _ s = true := fun w h => atoms_spec (ws := xw yX3_append cX3_append 6 (some .int)) B.pre w (List.mem_cons_of_mem _ h)
  have hown : s.vm.findClass RX3 = some m.cls := findClass_of_methodNamed B.named
  have hlocks := B.notSynchronized
  subst hsz
  have hAb := x_Ab hD0 hE.1
  have hD := hD0.self (sz := s.heap.size)
  generalize hAe : va_A [(h0, .inr (3, [.ref a0, .ref a1, .ref a2, .ref a3, .ref a4, .ref a5, .ref a6, .int 1, .ref a7, .ref a8, .ref a9, .ref a10, .ref a11, .int 0])), (a3, .inl (C 0, 600, .inl f3)), (a7, .inl (C 0, 5999, .inl f7)), (a8, .inl (C 0, 5999, .inl f8)), (a9, .inl (C 0, 5999, .inl f9)), (a10, .inl (C 0, 5999, .inl f10)), (a11, .inl (C 0, 5999, .inl f11))] s.heap.size = A at hD hAb ⊢
  have hA : ∀ q : Nat, s.heap.size ≤ q → A q := fun q h => by rw [← hAe]; exact Or.inr h
  have hS : va_S A s.heap s.heap [] := va_S.rf
  have hP : va_P D vwCl [(h0, .inr (3, [.ref a0, .ref a1, .ref a2, .ref a3, .ref a4, .ref a5, .ref a6, .int 1, .ref a7, .ref a8, .ref a9, .ref a10, .ref a11, .int 0])), (a3, .inl (C 0, 600, .inl f3)), (a7, .inl (C 0, 5999, .inl f7)), (a8, .inl (C 0, 5999, .inl f8)), (a9, .inl (C 0, 5999, .inl f9)), (a10, .inl (C 0, 5999, .inl f10)), (a11, .inl (C 0, 5999, .inl f11))] s.heap := hP
  have hl := lv_entry ([.ref h0, .int (-2), .int ky]) (n := 6) (Nat.le_of_ble_eq_true rfl)
  rw [lg_entry_eq]
  generalize (lg_sl ([.ref h0, .int (-2), .int ky]) ++ List.replicate (6 - (lg_sl ([.ref h0, .int (-2), .int ky])).length) Slot.unset).toArray = ls at hl ⊢
  have hl : lv_has ls 6 [(0, .ref h0), (1, .int (-2)), (2, .int ky)] := hl
  refine lv_aload_n hx hb dX3_append_0 rfl (lv_at hl 0 rfl) ?_
  refine va_get (D := D) (ci := 3) (v := .int 0) (C := RX3) (T := TX3) (N := 14) hx hb ht inX3 hown hK hP 0 rfl rfl 13 (by decide) (ht _ m_251) (fun _ h9 => h9) rfl dX3_append_1 ?_
  refine lv_istore_n (lv' := [(3, .int 0), (0, .ref h0), (1, .int (-2)), (2, .int ky)]) hx hb dX3_append_4 rfl hl (by decide) rfl (fun ls hl => ?_)
  refine lv_aload_n hx hb dX3_append_5 rfl (lv_at hl 1 rfl) ?_
  refine lv_iload_n hx hb dX3_append_6 rfl (lv_at hl 0 rfl) ?_
  have hPc := hP.sub (ws' := [(h0, .inr (3, [.ref a0, .ref a1, .ref a2, .ref a3, .ref a4, .ref a5, .ref a6, .int 1, .ref a7, .ref a8, .ref a9, .ref a10, .ref a11, .int 0]))]) [0] rfl
  have hDc := hD.sub (ws' := [(h0, .inr (3, [.ref a0, .ref a1, .ref a2, .ref a3, .ref a4, .ref a5, .ref a6, .int 1, .ref a7, .ref a8, .ref a9, .ref a10, .ref a11, .int 0]))]) [0] (by decide) rfl
  have hFc := va_free (wc := [(h0, .inr (3, [.ref a0, .ref a1, .ref a2, .ref a3, .ref a4, .ref a5, .ref a6, .int 1, .ref a7, .ref a8, .ref a9, .ref a10, .ref a11, .int 0]))]) hD hS hA [0] rfl
  refine va_calli (va_runV (As := [.int 0]) (rest := []) ⟨hx, hb, hml, hown, ht⟩ (k3_isSlot0 l D C b0 s.heap.size h0 a0 a1 a2 a3 a4 a5 a6 a7 a8 a9 a10 a11 0) (cwV 1 ht (xg_V m_248 m_249 m_250 m_217 m_166) rfl rfl rfl (by decide +kernel) ⟨Nat.le_of_ble_eq_true rfl, Nat.le_of_ble_eq_true rfl⟩) ⟨xPc_bl, va_recv hK hPc (ci := 3) (q0 := 0) rfl rfl, xPc_at hPc hK hDc hE hS hAb⟩ rfl rfl hl.1 rfl (lv_room (Nat.le_of_ble_eq_true rfl)) dX3_append_7 ⟨(by decide), (by decide)⟩) hS (fun q _ h => hFc q h) hFc (fun r_1 u_2 t H1 locs ht1 hvm hw hB hz1 hk1 hS => ?_)
  obtain ⟨hP1, hD1⟩ := hB
  rw [ht1] at hP1
  try dsimp only at hw
  obtain ⟨hP, hD⟩ := va_join (wr := [(a3, .inl (C 0, 600, .inl f3)), (a7, .inl (C 0, 5999, .inl f7)), (a8, .inl (C 0, 5999, .inl f8)), (a9, .inl (C 0, 5999, .inl f9)), (a10, .inl (C 0, 5999, .inl f10)), (a11, .inl (C 0, 5999, .inl f11))]) (w1 := [(h0, .inr (3, [.ref a0, .ref a1, .ref a2, .ref a3, .ref a4, .ref a5, .ref a6, .int 1, .ref a7, .ref a8, .ref a9, .ref a10, .ref a11, .int 0]))]) hP hD [0] [1, 2, 3, 4, 5, 6] rfl rfl (by decide) (by decide) hk1 hFc hP1 hD1
  generalize H1 = H at hP hS ⊢
  have hP : va_P D vwCl [(a3, .inl (C 0, 600, .inl f3)), (a7, .inl (C 0, 5999, .inl f7)), (a8, .inl (C 0, 5999, .inl f8)), (a9, .inl (C 0, 5999, .inl f9)), (a10, .inl (C 0, 5999, .inl f10)), (a11, .inl (C 0, 5999, .inl f11)), (h0, .inr (3, [.ref a0, .ref a1, .ref a2, .ref a3, .ref a4, .ref a5, .ref a6, .int 1, .ref a7, .ref a8, .ref a9, .ref a10, .ref a11, .int 0]))] H := hP
  have hD : va_D A [(a3, .inl (C 0, 600, .inl f3)), (a7, .inl (C 0, 5999, .inl f7)), (a8, .inl (C 0, 5999, .inl f8)), (a9, .inl (C 0, 5999, .inl f9)), (a10, .inl (C 0, 5999, .inl f10)), (a11, .inl (C 0, 5999, .inl f11)), (h0, .inr (3, [.ref a0, .ref a1, .ref a2, .ref a3, .ref a4, .ref a5, .ref a6, .int 1, .ref a7, .ref a8, .ref a9, .ref a10, .ref a11, .int 0]))] := hD
  have hq_7 := hw
  obtain rfl : r_1 = (1 : Int32) := hw
  refine lv_if_ne (tgt := 23) hx hb dX3_append_10 (by decide) (fun c_10 => ?_) (fun c_10 => ?_)
  rotate_left
  · exact absurd c_10 (by decide)
  refine lv_aload_n hx hb dX3_append_23 rfl (lv_at hl 1 rfl) ?_
  refine lv_aload_n hx hb dX3_append_24 rfl (lv_at hl 1 rfl) ?_
  refine va_get (D := D) (ci := 3) (v := .ref a11) (C := RX3) (T := TX3) (N := 14) hx hb ht inX3 hown hK hP 6 rfl rfl 12 (by decide) (ht _ m_252) (fun _ h9 => h9) rfl dX3_append_25 ?_
  refine lv_iload_n hx hb dX3_append_28 rfl (lv_at hl 0 rfl) ?_
  refine va_iald hx hb hK hP 5 0 rfl rfl (by unfold vp_in; decide) dX3_append_29 ?_
  refine lv_topi (fun x_3 ex_3 => ?_)
  refine va_put (D := D) (ci := 3) (v := .int x_3) (ty := tyX3 13) (C := RX3) (T := TX3) (N := 14) hx hb ht inX3 tyX3 tyX3_ok nmX3 hown hK hP hD hS 6 rfl rfl 13 (by decide) (ht _ m_251) (fun _ h9 => h9) rfl (by decide +kernel) rfl rfl (Nat.le_of_ble_eq_true rfl) dX3_append_30 (fun H locs hP hD hS => ?_)
  have hP : va_P D vwCl [(a3, .inl (C 0, 600, .inl f3)), (a7, .inl (C 0, 5999, .inl f7)), (a8, .inl (C 0, 5999, .inl f8)), (a9, .inl (C 0, 5999, .inl f9)), (a10, .inl (C 0, 5999, .inl f10)), (a11, .inl (C 0, 5999, .inl f11)), (h0, .inr (3, [.ref a0, .ref a1, .ref a2, .ref a3, .ref a4, .ref a5, .ref a6, .int 1, .ref a7, .ref a8, .ref a9, .ref a10, .ref a11, .int x_3]))] H := hP
  have hD : va_D A [(a3, .inl (C 0, 600, .inl f3)), (a7, .inl (C 0, 5999, .inl f7)), (a8, .inl (C 0, 5999, .inl f8)), (a9, .inl (C 0, 5999, .inl f9)), (a10, .inl (C 0, 5999, .inl f10)), (a11, .inl (C 0, 5999, .inl f11)), (h0, .inr (3, [.ref a0, .ref a1, .ref a2, .ref a3, .ref a4, .ref a5, .ref a6, .int 1, .ref a7, .ref a8, .ref a9, .ref a10, .ref a11, .int x_3]))] := hD
  refine lv_aload_n hx hb dX3_append_33 rfl (lv_at hl 1 rfl) ?_
  refine va_get (D := D) (ci := 3) (v := .ref a7) (C := RX3) (T := TX3) (N := 14) hx hb ht inX3 hown hK hP 6 rfl rfl 8 (by decide) (ht _ m_253) (fun _ h9 => h9) rfl dX3_append_34 ?_
  refine lv_iload_n hx hb dX3_append_37 rfl (lv_at hl 0 rfl) ?_
  refine lv_iload_n hx hb dX3_append_38 rfl (lv_at hl 3 rfl) ?_
  refine va_iast hx hb hK hP hD hS 1 0 rfl rfl (by unfold vp_in; decide) dX3_append_39 (fun H locs hP hD hS => ?_)
  have hP : va_P D vwCl [(a3, .inl (C 0, 600, .inl f3)), (a7, .inl (C 0, 5999, .inl ((upd f7 (Int32.toNatClampNeg 0) ky)))), (a8, .inl (C 0, 5999, .inl f8)), (a9, .inl (C 0, 5999, .inl f9)), (a10, .inl (C 0, 5999, .inl f10)), (a11, .inl (C 0, 5999, .inl f11)), (h0, .inr (3, [.ref a0, .ref a1, .ref a2, .ref a3, .ref a4, .ref a5, .ref a6, .int 1, .ref a7, .ref a8, .ref a9, .ref a10, .ref a11, .int x_3]))] H := hP
  have hD : va_D A [(a3, .inl (C 0, 600, .inl f3)), (a7, .inl (C 0, 5999, .inl ((upd f7 (Int32.toNatClampNeg 0) ky)))), (a8, .inl (C 0, 5999, .inl f8)), (a9, .inl (C 0, 5999, .inl f9)), (a10, .inl (C 0, 5999, .inl f10)), (a11, .inl (C 0, 5999, .inl f11)), (h0, .inr (3, [.ref a0, .ref a1, .ref a2, .ref a3, .ref a4, .ref a5, .ref a6, .int 1, .ref a7, .ref a8, .ref a9, .ref a10, .ref a11, .int x_3]))] := hD
  refine lv_aload_n hx hb dX3_append_40 rfl (lv_at hl 1 rfl) ?_
  refine va_get (D := D) (ci := 3) (v := .ref a8) (C := RX3) (T := TX3) (N := 14) hx hb ht inX3 hown hK hP 6 rfl rfl 9 (by decide) (ht _ m_254) (fun _ h9 => h9) rfl dX3_append_41 ?_
  refine lv_iload_n hx hb dX3_append_44 rfl (lv_at hl 0 rfl) ?_
  refine lv_iconst (v := (-1)) hx hb dX3_append_45 (by decide) ?_
  refine va_iast hx hb hK hP hD hS 2 0 rfl rfl (by unfold vp_in; decide) dX3_append_46 (fun H locs hP hD hS => ?_)
  have hP : va_P D vwCl [(a3, .inl (C 0, 600, .inl f3)), (a7, .inl (C 0, 5999, .inl ((upd f7 (Int32.toNatClampNeg 0) ky)))), (a8, .inl (C 0, 5999, .inl ((upd f8 (Int32.toNatClampNeg 0) (-1))))), (a9, .inl (C 0, 5999, .inl f9)), (a10, .inl (C 0, 5999, .inl f10)), (a11, .inl (C 0, 5999, .inl f11)), (h0, .inr (3, [.ref a0, .ref a1, .ref a2, .ref a3, .ref a4, .ref a5, .ref a6, .int 1, .ref a7, .ref a8, .ref a9, .ref a10, .ref a11, .int x_3]))] H := hP
  have hD : va_D A [(a3, .inl (C 0, 600, .inl f3)), (a7, .inl (C 0, 5999, .inl ((upd f7 (Int32.toNatClampNeg 0) ky)))), (a8, .inl (C 0, 5999, .inl ((upd f8 (Int32.toNatClampNeg 0) (-1))))), (a9, .inl (C 0, 5999, .inl f9)), (a10, .inl (C 0, 5999, .inl f10)), (a11, .inl (C 0, 5999, .inl f11)), (h0, .inr (3, [.ref a0, .ref a1, .ref a2, .ref a3, .ref a4, .ref a5, .ref a6, .int 1, .ref a7, .ref a8, .ref a9, .ref a10, .ref a11, .int x_3]))] := hD
  refine lv_aload_n hx hb dX3_append_47 rfl (lv_at hl 1 rfl) ?_
  refine va_get (D := D) (ci := 3) (v := .ref a9) (C := RX3) (T := TX3) (N := 14) hx hb ht inX3 hown hK hP 6 rfl rfl 10 (by decide) (ht _ m_255) (fun _ h9 => h9) rfl dX3_append_48 ?_
  refine lv_iload_n hx hb dX3_append_51 rfl (lv_at hl 0 rfl) ?_
  refine lv_iconst (v := (-1)) hx hb dX3_append_52 (by decide) ?_
  refine va_iast hx hb hK hP hD hS 3 0 rfl rfl (by unfold vp_in; decide) dX3_append_53 (fun H locs hP hD hS => ?_)
  have hP : va_P D vwCl [(a3, .inl (C 0, 600, .inl f3)), (a7, .inl (C 0, 5999, .inl ((upd f7 (Int32.toNatClampNeg 0) ky)))), (a8, .inl (C 0, 5999, .inl ((upd f8 (Int32.toNatClampNeg 0) (-1))))), (a9, .inl (C 0, 5999, .inl ((upd f9 (Int32.toNatClampNeg 0) (-1))))), (a10, .inl (C 0, 5999, .inl f10)), (a11, .inl (C 0, 5999, .inl f11)), (h0, .inr (3, [.ref a0, .ref a1, .ref a2, .ref a3, .ref a4, .ref a5, .ref a6, .int 1, .ref a7, .ref a8, .ref a9, .ref a10, .ref a11, .int x_3]))] H := hP
  have hD : va_D A [(a3, .inl (C 0, 600, .inl f3)), (a7, .inl (C 0, 5999, .inl ((upd f7 (Int32.toNatClampNeg 0) ky)))), (a8, .inl (C 0, 5999, .inl ((upd f8 (Int32.toNatClampNeg 0) (-1))))), (a9, .inl (C 0, 5999, .inl ((upd f9 (Int32.toNatClampNeg 0) (-1))))), (a10, .inl (C 0, 5999, .inl f10)), (a11, .inl (C 0, 5999, .inl f11)), (h0, .inr (3, [.ref a0, .ref a1, .ref a2, .ref a3, .ref a4, .ref a5, .ref a6, .int 1, .ref a7, .ref a8, .ref a9, .ref a10, .ref a11, .int x_3]))] := hD
  refine lv_aload_n hx hb dX3_append_54 rfl (lv_at hl 1 rfl) ?_
  refine va_get (D := D) (ci := 3) (v := .ref a10) (C := RX3) (T := TX3) (N := 14) hx hb ht inX3 hown hK hP 6 rfl rfl 11 (by decide) (ht _ m_256) (fun _ h9 => h9) rfl dX3_append_55 ?_
  refine lv_iload_n hx hb dX3_append_58 rfl (lv_at hl 0 rfl) ?_
  refine lv_iconst (v := 0) hx hb dX3_append_59 (by decide) ?_
  refine va_iast hx hb hK hP hD hS 4 0 rfl rfl (by unfold vp_in; decide) dX3_append_60 (fun H locs hP hD hS => ?_)
  have hP : va_P D vwCl [(a3, .inl (C 0, 600, .inl f3)), (a7, .inl (C 0, 5999, .inl ((upd f7 (Int32.toNatClampNeg 0) ky)))), (a8, .inl (C 0, 5999, .inl ((upd f8 (Int32.toNatClampNeg 0) (-1))))), (a9, .inl (C 0, 5999, .inl ((upd f9 (Int32.toNatClampNeg 0) (-1))))), (a10, .inl (C 0, 5999, .inl ((upd f10 (Int32.toNatClampNeg 0) 0)))), (a11, .inl (C 0, 5999, .inl f11)), (h0, .inr (3, [.ref a0, .ref a1, .ref a2, .ref a3, .ref a4, .ref a5, .ref a6, .int 1, .ref a7, .ref a8, .ref a9, .ref a10, .ref a11, .int x_3]))] H := hP
  have hD : va_D A [(a3, .inl (C 0, 600, .inl f3)), (a7, .inl (C 0, 5999, .inl ((upd f7 (Int32.toNatClampNeg 0) ky)))), (a8, .inl (C 0, 5999, .inl ((upd f8 (Int32.toNatClampNeg 0) (-1))))), (a9, .inl (C 0, 5999, .inl ((upd f9 (Int32.toNatClampNeg 0) (-1))))), (a10, .inl (C 0, 5999, .inl ((upd f10 (Int32.toNatClampNeg 0) 0)))), (a11, .inl (C 0, 5999, .inl f11)), (h0, .inr (3, [.ref a0, .ref a1, .ref a2, .ref a3, .ref a4, .ref a5, .ref a6, .int 1, .ref a7, .ref a8, .ref a9, .ref a10, .ref a11, .int x_3]))] := hD
  refine lv_aload_n hx hb dX3_append_61 rfl (lv_at hl 1 rfl) ?_
  refine lv_iload_n hx hb dX3_append_62 rfl (lv_at hl 2 rfl) ?_
  have hPc := hP.sub (ws' := [(h0, .inr (3, [.ref a0, .ref a1, .ref a2, .ref a3, .ref a4, .ref a5, .ref a6, .int 1, .ref a7, .ref a8, .ref a9, .ref a10, .ref a11, .int x_3])), (a3, .inl (C 0, 600, .inl f3))]) [6, 0] rfl
  have hDc := hD.sub (ws' := [(h0, .inr (3, [.ref a0, .ref a1, .ref a2, .ref a3, .ref a4, .ref a5, .ref a6, .int 1, .ref a7, .ref a8, .ref a9, .ref a10, .ref a11, .int x_3])), (a3, .inl (C 0, 600, .inl f3))]) [6, 0] (by decide) rfl
  have hFc := va_free (wc := [(h0, .inr (3, [.ref a0, .ref a1, .ref a2, .ref a3, .ref a4, .ref a5, .ref a6, .int 1, .ref a7, .ref a8, .ref a9, .ref a10, .ref a11, .int x_3])), (a3, .inl (C 0, 600, .inl f3))]) hD hS hA [6, 0] rfl
  refine va_calli (va_runV (As := [.int (-2)]) (rest := []) ⟨hx, hb, hml, hown, ht⟩ (k3_firstSlotOf l D C b0 H.size h0 a0 a1 a2 a3 a4 a5 a6 a7 a8 a9 a10 a11 f3 x_3 (by first | assumption | rfl | decide)) (cwV 1 ht (xg_V m_257 m_258 m_259 m_217 m_169) rfl rfl rfl (by decide +kernel) ⟨Nat.le_of_ble_eq_true rfl, Nat.le_of_ble_eq_true rfl⟩) ⟨xPc_bl, va_recv hK hPc (ci := 3) (q0 := 0) rfl rfl, xPc_at hPc hK hDc hE hS hAb⟩ rfl rfl hl.1 rfl (lv_room (Nat.le_of_ble_eq_true rfl)) dX3_append_63 ⟨(by decide), (by decide)⟩) hS (fun q _ h => hFc q h) hFc (fun r_4 u_5 t H1 locs ht1 hvm hw hB hz1 hk1 hS => ?_)
  obtain ⟨hP1, hD1⟩ := hB
  rw [ht1] at hP1
  try dsimp only at hw
  obtain ⟨hP, hD⟩ := va_join (wr := [(a7, .inl (C 0, 5999, .inl ((upd f7 (Int32.toNatClampNeg 0) ky)))), (a8, .inl (C 0, 5999, .inl ((upd f8 (Int32.toNatClampNeg 0) (-1))))), (a9, .inl (C 0, 5999, .inl ((upd f9 (Int32.toNatClampNeg 0) (-1))))), (a10, .inl (C 0, 5999, .inl ((upd f10 (Int32.toNatClampNeg 0) 0)))), (a11, .inl (C 0, 5999, .inl f11))]) (w1 := [(h0, .inr (3, [.ref a0, .ref a1, .ref a2, .ref a3, .ref a4, .ref a5, .ref a6, .int 1, .ref a7, .ref a8, .ref a9, .ref a10, .ref a11, .int x_3])), (a3, .inl (C 0, 600, .inl f3))]) hP hD [6, 0] [1, 2, 3, 4, 5] rfl rfl (by decide) (by decide) hk1 hFc hP1 hD1
  generalize H1 = H at hP hS ⊢
  have hP : va_P D vwCl [(a7, .inl (C 0, 5999, .inl ((upd f7 (Int32.toNatClampNeg 0) ky)))), (a8, .inl (C 0, 5999, .inl ((upd f8 (Int32.toNatClampNeg 0) (-1))))), (a9, .inl (C 0, 5999, .inl ((upd f9 (Int32.toNatClampNeg 0) (-1))))), (a10, .inl (C 0, 5999, .inl ((upd f10 (Int32.toNatClampNeg 0) 0)))), (a11, .inl (C 0, 5999, .inl f11)), (h0, .inr (3, [.ref a0, .ref a1, .ref a2, .ref a3, .ref a4, .ref a5, .ref a6, .int 1, .ref a7, .ref a8, .ref a9, .ref a10, .ref a11, .int x_3])), (a3, .inl (C 0, 600, .inl f3))] H := hP
  have hD : va_D A [(a7, .inl (C 0, 5999, .inl ((upd f7 (Int32.toNatClampNeg 0) ky)))), (a8, .inl (C 0, 5999, .inl ((upd f8 (Int32.toNatClampNeg 0) (-1))))), (a9, .inl (C 0, 5999, .inl ((upd f9 (Int32.toNatClampNeg 0) (-1))))), (a10, .inl (C 0, 5999, .inl ((upd f10 (Int32.toNatClampNeg 0) 0)))), (a11, .inl (C 0, 5999, .inl f11)), (h0, .inr (3, [.ref a0, .ref a1, .ref a2, .ref a3, .ref a4, .ref a5, .ref a6, .int 1, .ref a7, .ref a8, .ref a9, .ref a10, .ref a11, .int x_3])), (a3, .inl (C 0, 600, .inl f3))] := hD
  have hq_63 := hw
  obtain rfl : r_4 = (-1 : Int32) := hw
  refine lv_istore (lv' := [(4, .int (-1)), (3, .int 0), (0, .ref h0), (1, .int (-2)), (2, .int ky)]) hx hb dX3_append_66 hl (by decide) rfl (fun ls hl => ?_)
  refine lv_aload_n hx hb dX3_append_68 rfl (lv_at hl 2 rfl) ?_
  refine lv_iload hx hb dX3_append_69 (lv_at hl 0 rfl) ?_
  refine lv_iload_n hx hb dX3_append_71 rfl (lv_at hl 4 rfl) ?_
  have hPc := hP.sub (ws' := [(h0, .inr (3, [.ref a0, .ref a1, .ref a2, .ref a3, .ref a4, .ref a5, .ref a6, .int 1, .ref a7, .ref a8, .ref a9, .ref a10, .ref a11, .int x_3]))]) [5] rfl
  have hDc := hD.sub (ws' := [(h0, .inr (3, [.ref a0, .ref a1, .ref a2, .ref a3, .ref a4, .ref a5, .ref a6, .int 1, .ref a7, .ref a8, .ref a9, .ref a10, .ref a11, .int x_3]))]) [5] (by decide) rfl
  have hFc := va_free (wc := [(h0, .inr (3, [.ref a0, .ref a1, .ref a2, .ref a3, .ref a4, .ref a5, .ref a6, .int 1, .ref a7, .ref a8, .ref a9, .ref a10, .ref a11, .int x_3]))]) hD hS hA [5] rfl
  refine va_calli (va_runV (As := [.int (-1), .int ky]) (rest := []) ⟨hx, hb, hml, hown, ht⟩ (k3_slotBefore l D C b0 H.size h0 a0 a1 a2 a3 a4 a5 a6 a7 a8 a9 a10 a11 x_3 ky) (cwV 2 ht (xg_V m_260 m_261 m_262 m_217 m_170) rfl rfl rfl (by decide +kernel) ⟨Nat.le_of_ble_eq_true rfl, Nat.le_of_ble_eq_true rfl⟩) ⟨xPc_bl, va_recv hK hPc (ci := 3) (q0 := 0) rfl rfl, xPc_at hPc hK hDc hE hS hAb⟩ rfl rfl hl.1 rfl (lv_room (Nat.le_of_ble_eq_true rfl)) dX3_append_72 ⟨(by decide), (by decide)⟩) hS (fun q _ h => hFc q h) hFc (fun r_6 u_7 t H1 locs ht1 hvm hw hB hz1 hk1 hS => ?_)
  obtain ⟨hP1, hD1⟩ := hB
  rw [ht1] at hP1
  try dsimp only at hw
  obtain ⟨hP, hD⟩ := va_join (wr := [(a7, .inl (C 0, 5999, .inl ((upd f7 (Int32.toNatClampNeg 0) ky)))), (a8, .inl (C 0, 5999, .inl ((upd f8 (Int32.toNatClampNeg 0) (-1))))), (a9, .inl (C 0, 5999, .inl ((upd f9 (Int32.toNatClampNeg 0) (-1))))), (a10, .inl (C 0, 5999, .inl ((upd f10 (Int32.toNatClampNeg 0) 0)))), (a11, .inl (C 0, 5999, .inl f11)), (a3, .inl (C 0, 600, .inl f3))]) (w1 := [(h0, .inr (3, [.ref a0, .ref a1, .ref a2, .ref a3, .ref a4, .ref a5, .ref a6, .int 1, .ref a7, .ref a8, .ref a9, .ref a10, .ref a11, .int x_3]))]) hP hD [5] [0, 1, 2, 3, 4, 6] rfl rfl (by decide) (by decide) hk1 hFc hP1 hD1
  generalize H1 = H at hP hS ⊢
  have hP : va_P D vwCl [(a7, .inl (C 0, 5999, .inl ((upd f7 (Int32.toNatClampNeg 0) ky)))), (a8, .inl (C 0, 5999, .inl ((upd f8 (Int32.toNatClampNeg 0) (-1))))), (a9, .inl (C 0, 5999, .inl ((upd f9 (Int32.toNatClampNeg 0) (-1))))), (a10, .inl (C 0, 5999, .inl ((upd f10 (Int32.toNatClampNeg 0) 0)))), (a11, .inl (C 0, 5999, .inl f11)), (a3, .inl (C 0, 600, .inl f3)), (h0, .inr (3, [.ref a0, .ref a1, .ref a2, .ref a3, .ref a4, .ref a5, .ref a6, .int 1, .ref a7, .ref a8, .ref a9, .ref a10, .ref a11, .int x_3]))] H := hP
  have hD : va_D A [(a7, .inl (C 0, 5999, .inl ((upd f7 (Int32.toNatClampNeg 0) ky)))), (a8, .inl (C 0, 5999, .inl ((upd f8 (Int32.toNatClampNeg 0) (-1))))), (a9, .inl (C 0, 5999, .inl ((upd f9 (Int32.toNatClampNeg 0) (-1))))), (a10, .inl (C 0, 5999, .inl ((upd f10 (Int32.toNatClampNeg 0) 0)))), (a11, .inl (C 0, 5999, .inl f11)), (a3, .inl (C 0, 600, .inl f3)), (h0, .inr (3, [.ref a0, .ref a1, .ref a2, .ref a3, .ref a4, .ref a5, .ref a6, .int 1, .ref a7, .ref a8, .ref a9, .ref a10, .ref a11, .int x_3]))] := hD
  have hq_72 := hw
  obtain rfl : r_6 = (-1 : Int32) := hw
  refine lv_istore (lv' := [(5, .int (-1)), (4, .int (-1)), (3, .int 0), (0, .ref h0), (1, .int (-2)), (2, .int ky)]) hx hb dX3_append_75 hl (by decide) rfl (fun ls hl => ?_)
  refine lv_aload_n hx hb dX3_append_77 rfl (lv_at hl 3 rfl) ?_
  refine va_get (D := D) (ci := 3) (v := .ref a11) (C := RX3) (T := TX3) (N := 14) hx hb ht inX3 hown hK hP 6 rfl rfl 12 (by decide) (ht _ m_252) (fun _ h9 => h9) rfl dX3_append_78 ?_
  refine lv_iload_n hx hb dX3_append_81 rfl (lv_at hl 2 rfl) ?_
  refine lv_iload hx hb dX3_append_82 (lv_at hl 0 rfl) ?_
  refine lv_iconst (v := (-1)) hx hb dX3_append_84 (by decide) ?_
  refine lv_icmp_ne (tgt := 93) hx hb dX3_append_85 (by decide) (fun c_85 => ?_) (fun c_85 => ?_)
  · exact absurd c_85 (by decide)
  refine lv_iload hx hb dX3_append_88 (lv_at hl 1 rfl) ?_
  refine lv_goto (tgt := 99) hx hb dX3_append_90 (by decide) ?_
  refine va_iast hx hb hK hP hD hS 4 0 rfl rfl (by unfold vp_in; decide) dX3_append_99 (fun H locs hP hD hS => ?_)
  have hP : va_P D vwCl [(a7, .inl (C 0, 5999, .inl ((upd f7 (Int32.toNatClampNeg 0) ky)))), (a8, .inl (C 0, 5999, .inl ((upd f8 (Int32.toNatClampNeg 0) (-1))))), (a9, .inl (C 0, 5999, .inl ((upd f9 (Int32.toNatClampNeg 0) (-1))))), (a10, .inl (C 0, 5999, .inl ((upd f10 (Int32.toNatClampNeg 0) 0)))), (a11, .inl (C 0, 5999, .inl ((upd f11 (Int32.toNatClampNeg 0) (-1))))), (a3, .inl (C 0, 600, .inl f3)), (h0, .inr (3, [.ref a0, .ref a1, .ref a2, .ref a3, .ref a4, .ref a5, .ref a6, .int 1, .ref a7, .ref a8, .ref a9, .ref a10, .ref a11, .int x_3]))] H := hP
  have hD : va_D A [(a7, .inl (C 0, 5999, .inl ((upd f7 (Int32.toNatClampNeg 0) ky)))), (a8, .inl (C 0, 5999, .inl ((upd f8 (Int32.toNatClampNeg 0) (-1))))), (a9, .inl (C 0, 5999, .inl ((upd f9 (Int32.toNatClampNeg 0) (-1))))), (a10, .inl (C 0, 5999, .inl ((upd f10 (Int32.toNatClampNeg 0) 0)))), (a11, .inl (C 0, 5999, .inl ((upd f11 (Int32.toNatClampNeg 0) (-1))))), (a3, .inl (C 0, 600, .inl f3)), (h0, .inr (3, [.ref a0, .ref a1, .ref a2, .ref a3, .ref a4, .ref a5, .ref a6, .int 1, .ref a7, .ref a8, .ref a9, .ref a10, .ref a11, .int x_3]))] := hD
  refine lv_aload_n hx hb dX3_append_100 rfl (lv_at hl 3 rfl) ?_
  refine lv_iload_n hx hb dX3_append_101 rfl (lv_at hl 4 rfl) ?_
  refine lv_iload hx hb dX3_append_102 (lv_at hl 0 rfl) ?_
  refine lv_iload_n hx hb dX3_append_104 rfl (lv_at hl 2 rfl) ?_
  have hPc := hP.sub (ws' := [(h0, .inr (3, [.ref a0, .ref a1, .ref a2, .ref a3, .ref a4, .ref a5, .ref a6, .int 1, .ref a7, .ref a8, .ref a9, .ref a10, .ref a11, .int x_3])), (a3, .inl (C 0, 600, .inl f3))]) [6, 5] rfl
  have hDc := hD.sub (ws' := [(h0, .inr (3, [.ref a0, .ref a1, .ref a2, .ref a3, .ref a4, .ref a5, .ref a6, .int 1, .ref a7, .ref a8, .ref a9, .ref a10, .ref a11, .int x_3])), (a3, .inl (C 0, 600, .inl f3))]) [6, 5] (by decide) rfl
  have hFc := va_free (wc := [(h0, .inr (3, [.ref a0, .ref a1, .ref a2, .ref a3, .ref a4, .ref a5, .ref a6, .int 1, .ref a7, .ref a8, .ref a9, .ref a10, .ref a11, .int x_3])), (a3, .inl (C 0, 600, .inl f3))]) hD hS hA [6, 5] rfl
  refine va_callv (va_runV (As := [.int (-2), .int (-1), .int 0]) (rest := []) ⟨hx, hb, hml, hown, ht⟩ (k3_link l D C b0 H.size h0 a0 a1 a2 a3 a4 a5 a6 a7 a8 a9 a10 a11 f3 x_3) (cwV 3 ht (xg_V m_263 m_264 m_265 m_217 m_171) rfl rfl rfl (by decide +kernel) ⟨Nat.le_of_ble_eq_true rfl, Nat.le_of_ble_eq_true rfl⟩) ⟨xPc_bl, va_recv hK hPc (ci := 3) (q0 := 0) rfl rfl, xPc_at hPc hK hDc hE hS hAb⟩ rfl rfl hl.1 rfl (lv_room (Nat.le_of_ble_eq_true rfl)) dX3_append_105 ⟨(by decide), (by decide)⟩) hS (fun q _ h => hFc q h) hFc (fun u_8 t H1 locs ht1 hvm hw hB hz1 hk1 hS => ?_)
  obtain ⟨hP1, hD1⟩ := hB
  rw [ht1] at hP1
  try dsimp only at hw
  obtain ⟨hP, hD⟩ := va_join (wr := [(a7, .inl (C 0, 5999, .inl ((upd f7 (Int32.toNatClampNeg 0) ky)))), (a8, .inl (C 0, 5999, .inl ((upd f8 (Int32.toNatClampNeg 0) (-1))))), (a9, .inl (C 0, 5999, .inl ((upd f9 (Int32.toNatClampNeg 0) (-1))))), (a10, .inl (C 0, 5999, .inl ((upd f10 (Int32.toNatClampNeg 0) 0)))), (a11, .inl (C 0, 5999, .inl ((upd f11 (Int32.toNatClampNeg 0) (-1)))))]) (w1 := [(h0, .inr (3, [.ref a0, .ref a1, .ref a2, .ref a3, .ref a4, .ref a5, .ref a6, .int 1, .ref a7, .ref a8, .ref a9, .ref a10, .ref a11, .int x_3])), (a3, .inl (C 0, 600, .inl (u_8.2 0)))]) hP hD [6, 5] [0, 1, 2, 3, 4] rfl rfl (by decide) (by decide) hk1 hFc hP1 hD1
  generalize H1 = H at hP hS ⊢
  have hP : va_P D vwCl [(a7, .inl (C 0, 5999, .inl ((upd f7 (Int32.toNatClampNeg 0) ky)))), (a8, .inl (C 0, 5999, .inl ((upd f8 (Int32.toNatClampNeg 0) (-1))))), (a9, .inl (C 0, 5999, .inl ((upd f9 (Int32.toNatClampNeg 0) (-1))))), (a10, .inl (C 0, 5999, .inl ((upd f10 (Int32.toNatClampNeg 0) 0)))), (a11, .inl (C 0, 5999, .inl ((upd f11 (Int32.toNatClampNeg 0) (-1))))), (h0, .inr (3, [.ref a0, .ref a1, .ref a2, .ref a3, .ref a4, .ref a5, .ref a6, .int 1, .ref a7, .ref a8, .ref a9, .ref a10, .ref a11, .int x_3])), (a3, .inl (C 0, 600, .inl (u_8.2 0)))] H := hP
  have hD : va_D A [(a7, .inl (C 0, 5999, .inl ((upd f7 (Int32.toNatClampNeg 0) ky)))), (a8, .inl (C 0, 5999, .inl ((upd f8 (Int32.toNatClampNeg 0) (-1))))), (a9, .inl (C 0, 5999, .inl ((upd f9 (Int32.toNatClampNeg 0) (-1))))), (a10, .inl (C 0, 5999, .inl ((upd f10 (Int32.toNatClampNeg 0) 0)))), (a11, .inl (C 0, 5999, .inl ((upd f11 (Int32.toNatClampNeg 0) (-1))))), (h0, .inr (3, [.ref a0, .ref a1, .ref a2, .ref a3, .ref a4, .ref a5, .ref a6, .int 1, .ref a7, .ref a8, .ref a9, .ref a10, .ref a11, .int x_3])), (a3, .inl (C 0, 600, .inl (u_8.2 0)))] := hD
  have hq_105 := hw
  refine lv_iload_n hx hb dX3_append_108 rfl (lv_at hl 2 rfl) ?_
  have hP9 := hP.sub (ws' := [(h0, .inr (3, [.ref a0, .ref a1, .ref a2, .ref a3, .ref a4, .ref a5, .ref a6, .int 1, .ref a7, .ref a8, .ref a9, .ref a10, .ref a11, .int x_3])), (a3, .inl (C 0, 600, .inl (u_8.2 0))), (a7, .inl (C 0, 5999, .inl ((upd f7 (Int32.toNatClampNeg 0) ky)))), (a8, .inl (C 0, 5999, .inl ((upd f8 (Int32.toNatClampNeg 0) (-1))))), (a9, .inl (C 0, 5999, .inl ((upd f9 (Int32.toNatClampNeg 0) (-1))))), (a10, .inl (C 0, 5999, .inl ((upd f10 (Int32.toNatClampNeg 0) 0)))), (a11, .inl (C 0, 5999, .inl ((upd f11 (Int32.toNatClampNeg 0) (-1)))))]) [5, 6, 0, 1, 2, 3, 4] rfl
  have hD9 := hD.sub (ws' := [(h0, .inr (3, [.ref a0, .ref a1, .ref a2, .ref a3, .ref a4, .ref a5, .ref a6, .int 1, .ref a7, .ref a8, .ref a9, .ref a10, .ref a11, .int x_3])), (a3, .inl (C 0, 600, .inl (u_8.2 0))), (a7, .inl (C 0, 5999, .inl ((upd f7 (Int32.toNatClampNeg 0) ky)))), (a8, .inl (C 0, 5999, .inl ((upd f8 (Int32.toNatClampNeg 0) (-1))))), (a9, .inl (C 0, 5999, .inl ((upd f9 (Int32.toNatClampNeg 0) (-1))))), (a10, .inl (C 0, 5999, .inl ((upd f10 (Int32.toNatClampNeg 0) 0)))), (a11, .inl (C 0, 5999, .inl ((upd f11 (Int32.toNatClampNeg 0) (-1)))))]) [5, 6, 0, 1, 2, 3, 4] (by decide) rfl
  refine W.widen (k := 0) (n := 0) (by decide) (by decide) ?_
  exact W.iret (v := 0) hx hb hr (fun t ht1 hW => ⟨⟨0, (xA [], xF [(u_8.2 0), (upd f7 (Int32.toNatClampNeg 0) ky), (upd f8 (Int32.toNatClampNeg 0) (-1)), (upd f9 (Int32.toNatClampNeg 0) (-1)), (upd f10 (Int32.toNatClampNeg 0) 0), (upd f11 (Int32.toNatClampNeg 0) (-1)), (fun _ => x_3)]), rfl, by first | trivial | rfl | assumption | decide | (simp_all; done), by rw [ht1]; exact hP9, hD9⟩, hS.F ht1⟩) hS.2.2 dX3_append_109
set_option maxHeartbeats 4000000 in
set_option maxRecDepth 100000 in
theorem k3_putValueAt (l : Launch) (D : va_G) (C : Nat → ClassId) (b0 sz : Nat) (h0 : Nat) (a0 : Nat) (a1 : Nat) (a2 : Nat) (a3 : Nat) (a4 : Nat) (a5 : Nat) (a6 : Nat) (a7 : Nat) (a8 : Nat) (a9 : Nat) (a10 : Nat) (a11 : Nat) (f8 : Nat → Int32) (ff : Int32) (vv : Int32) : Met l yX3_putValueAt (xw yX3_putValueAt cX3_putValueAt 3 none) ({ frames := 16, cells := 0, slots := 0, locals := 300 }) (xPc D C b0 [.ref h0, .int 0, .int vv] [(h0, .inr (3, [.ref a0, .ref a1, .ref a2, .ref a3, .ref a4, .ref a5, .ref a6, .int 1, .ref a7, .ref a8, .ref a9, .ref a10, .ref a11, .int ff])), (a8, .inl (C 0, 5999, .inl f8))] sz) (va_Qv (fun u : xS => True) (xBw D (va_A [(h0, .inr (3, [.ref a0, .ref a1, .ref a2, .ref a3, .ref a4, .ref a5, .ref a6, .int 1, .ref a7, .ref a8, .ref a9, .ref a10, .ref a11, .int ff])), (a8, .inl (C 0, 5999, .inl f8))] sz) (fun u => [(h0, .inr (3, [.ref a0, .ref a1, .ref a2, .ref a3, .ref a4, .ref a5, .ref a6, .int 1, .ref a7, .ref a8, .ref a9, .ref a10, .ref a11, .int ff])), (a8, .inl (C 0, 5999, .inl (u.2 0)))])) (va_A [(h0, .inr (3, [.ref a0, .ref a1, .ref a2, .ref a3, .ref a4, .ref a5, .ref a6, .int 1, .ref a7, .ref a8, .ref a9, .ref a10, .ref a11, .int ff])), (a8, .inl (C 0, 5999, .inl f8))] sz)) 0 0 (va_A [(h0, .inr (3, [.ref a0, .ref a1, .ref a2, .ref a3, .ref a4, .ref a5, .ref a6, .int 1, .ref a7, .ref a8, .ref a9, .ref a10, .ref a11, .int ff])), (a8, .inl (C 0, 5999, .inl f8))] sz) := by
  refine Met.ofW (cc := cX3_putValueAt) (maxL := 3) (ret := none) (by decide) rfl ?_
  intro p e s m args below meth c s₁ B hml hv
  obtain ⟨rfl, hsz, hP, hK, hD0, hE⟩ := hv
  have hx := B.exec
  have hb := B.bytes
  have hr := B.returns
  have ht : ∀ w ∈ xb, w.before _ s = true := fun w h => atoms_spec (ws := xw yX3_putValueAt cX3_putValueAt 3 none) B.pre w (List.mem_cons_of_mem _ h)
  have hown : s.vm.findClass RX3 = some m.cls := findClass_of_methodNamed B.named
  have hlocks := B.notSynchronized
  subst hsz
  have hAb := x_Ab hD0 hE.1
  have hD := hD0.self (sz := s.heap.size)
  generalize hAe : va_A [(h0, .inr (3, [.ref a0, .ref a1, .ref a2, .ref a3, .ref a4, .ref a5, .ref a6, .int 1, .ref a7, .ref a8, .ref a9, .ref a10, .ref a11, .int ff])), (a8, .inl (C 0, 5999, .inl f8))] s.heap.size = A at hD hAb ⊢
  have hA : ∀ q : Nat, s.heap.size ≤ q → A q := fun q h => by rw [← hAe]; exact Or.inr h
  have hS : va_S A s.heap s.heap [] := va_S.rf
  have hP : va_P D vwCl [(h0, .inr (3, [.ref a0, .ref a1, .ref a2, .ref a3, .ref a4, .ref a5, .ref a6, .int 1, .ref a7, .ref a8, .ref a9, .ref a10, .ref a11, .int ff])), (a8, .inl (C 0, 5999, .inl f8))] s.heap := hP
  have hl := lv_entry ([.ref h0, .int 0, .int vv]) (n := 3) (Nat.le_of_ble_eq_true rfl)
  rw [lg_entry_eq]
  generalize (lg_sl ([.ref h0, .int 0, .int vv]) ++ List.replicate (3 - (lg_sl ([.ref h0, .int 0, .int vv])).length) Slot.unset).toArray = ls at hl ⊢
  have hl : lv_has ls 3 [(0, .ref h0), (1, .int 0), (2, .int vv)] := hl
  refine lv_aload_n hx hb dX3_putValueAt_0 rfl (lv_at hl 0 rfl) ?_
  refine lv_iload_n hx hb dX3_putValueAt_1 rfl (lv_at hl 1 rfl) ?_
  have hPc := hP.sub (ws' := [(h0, .inr (3, [.ref a0, .ref a1, .ref a2, .ref a3, .ref a4, .ref a5, .ref a6, .int 1, .ref a7, .ref a8, .ref a9, .ref a10, .ref a11, .int ff]))]) [0] rfl
  have hDc := hD.sub (ws' := [(h0, .inr (3, [.ref a0, .ref a1, .ref a2, .ref a3, .ref a4, .ref a5, .ref a6, .int 1, .ref a7, .ref a8, .ref a9, .ref a10, .ref a11, .int ff]))]) [0] (by decide) rfl
  have hFc := va_free (wc := [(h0, .inr (3, [.ref a0, .ref a1, .ref a2, .ref a3, .ref a4, .ref a5, .ref a6, .int 1, .ref a7, .ref a8, .ref a9, .ref a10, .ref a11, .int ff]))]) hD hS hA [0] rfl
  refine va_calli (va_runV (As := [.int 0]) (rest := []) ⟨hx, hb, hml, hown, ht⟩ (k3_isSlot0 l D C b0 s.heap.size h0 a0 a1 a2 a3 a4 a5 a6 a7 a8 a9 a10 a11 ff) (cwV 1 ht (xg_V m_248 m_249 m_250 m_217 m_166) rfl rfl rfl (by decide +kernel) ⟨Nat.le_of_ble_eq_true rfl, Nat.le_of_ble_eq_true rfl⟩) ⟨xPc_bl, va_recv hK hPc (ci := 3) (q0 := 0) rfl rfl, xPc_at hPc hK hDc hE hS hAb⟩ rfl rfl hl.1 rfl (lv_room (Nat.le_of_ble_eq_true rfl)) dX3_putValueAt_2 ⟨(by decide), (by decide)⟩) hS (fun q _ h => hFc q h) hFc (fun r_1 u_2 t H1 locs ht1 hvm hw hB hz1 hk1 hS => ?_)
  obtain ⟨hP1, hD1⟩ := hB
  rw [ht1] at hP1
  try dsimp only at hw
  obtain ⟨hP, hD⟩ := va_join (wr := [(a8, .inl (C 0, 5999, .inl f8))]) (w1 := [(h0, .inr (3, [.ref a0, .ref a1, .ref a2, .ref a3, .ref a4, .ref a5, .ref a6, .int 1, .ref a7, .ref a8, .ref a9, .ref a10, .ref a11, .int ff]))]) hP hD [0] [1] rfl rfl (by decide) (by decide) hk1 hFc hP1 hD1
  generalize H1 = H at hP hS ⊢
  have hP : va_P D vwCl [(a8, .inl (C 0, 5999, .inl f8)), (h0, .inr (3, [.ref a0, .ref a1, .ref a2, .ref a3, .ref a4, .ref a5, .ref a6, .int 1, .ref a7, .ref a8, .ref a9, .ref a10, .ref a11, .int ff]))] H := hP
  have hD : va_D A [(a8, .inl (C 0, 5999, .inl f8)), (h0, .inr (3, [.ref a0, .ref a1, .ref a2, .ref a3, .ref a4, .ref a5, .ref a6, .int 1, .ref a7, .ref a8, .ref a9, .ref a10, .ref a11, .int ff]))] := hD
  have hq_2 := hw
  obtain rfl : r_1 = (1 : Int32) := hw
  refine lv_if_eq (tgt := 15) hx hb dX3_putValueAt_5 (by decide) (fun c_5 => ?_) (fun c_5 => ?_)
  · exact absurd c_5 (by decide)
  refine lv_aload_n hx hb dX3_putValueAt_8 rfl (lv_at hl 0 rfl) ?_
  refine va_get (D := D) (ci := 3) (v := .ref a8) (C := RX3) (T := TX3) (N := 14) hx hb ht inX3 hown hK hP 1 rfl rfl 9 (by decide) (ht _ m_254) (fun _ h9 => h9) rfl dX3_putValueAt_9 ?_
  refine lv_iload_n hx hb dX3_putValueAt_12 rfl (lv_at hl 1 rfl) ?_
  refine lv_iload_n hx hb dX3_putValueAt_13 rfl (lv_at hl 2 rfl) ?_
  refine va_iast hx hb hK hP hD hS 0 0 rfl rfl (by unfold vp_in; decide) dX3_putValueAt_14 (fun H locs hP hD hS => ?_)
  have hP : va_P D vwCl [(a8, .inl (C 0, 5999, .inl ((upd f8 (Int32.toNatClampNeg 0) vv)))), (h0, .inr (3, [.ref a0, .ref a1, .ref a2, .ref a3, .ref a4, .ref a5, .ref a6, .int 1, .ref a7, .ref a8, .ref a9, .ref a10, .ref a11, .int ff]))] H := hP
  have hD : va_D A [(a8, .inl (C 0, 5999, .inl ((upd f8 (Int32.toNatClampNeg 0) vv)))), (h0, .inr (3, [.ref a0, .ref a1, .ref a2, .ref a3, .ref a4, .ref a5, .ref a6, .int 1, .ref a7, .ref a8, .ref a9, .ref a10, .ref a11, .int ff]))] := hD
  have hP9 := hP.sub (ws' := [(h0, .inr (3, [.ref a0, .ref a1, .ref a2, .ref a3, .ref a4, .ref a5, .ref a6, .int 1, .ref a7, .ref a8, .ref a9, .ref a10, .ref a11, .int ff])), (a8, .inl (C 0, 5999, .inl ((upd f8 (Int32.toNatClampNeg 0) vv))))]) [1, 0] rfl
  have hD9 := hD.sub (ws' := [(h0, .inr (3, [.ref a0, .ref a1, .ref a2, .ref a3, .ref a4, .ref a5, .ref a6, .int 1, .ref a7, .ref a8, .ref a9, .ref a10, .ref a11, .int ff])), (a8, .inl (C 0, 5999, .inl ((upd f8 (Int32.toNatClampNeg 0) vv))))]) [1, 0] (by decide) rfl
  refine W.widen (k := 0) (n := 0) (by decide) (by decide) ?_
  exact W.vret hx hb hr (fun t ht1 hW => ⟨⟨(xA [], xF [(upd f8 (Int32.toNatClampNeg 0) vv)]), rfl, by first | trivial | rfl | assumption | decide | (simp_all; done), by rw [ht1]; exact hP9, hD9⟩, hS.F ht1⟩) hS.2.2 dX3_putValueAt_15
set_option maxHeartbeats 4000000 in
set_option maxRecDepth 100000 in
theorem k3_putFlagsAt (l : Launch) (D : va_G) (C : Nat → ClassId) (b0 sz : Nat) (h0 : Nat) (a0 : Nat) (a1 : Nat) (a2 : Nat) (a3 : Nat) (a4 : Nat) (a5 : Nat) (a6 : Nat) (a7 : Nat) (a8 : Nat) (a9 : Nat) (a10 : Nat) (a11 : Nat) (f10 : Nat → Int32) (ff : Int32) (vv : Int32) : Met l yX3_putFlagsAt (xw yX3_putFlagsAt cX3_putFlagsAt 3 none) ({ frames := 16, cells := 0, slots := 0, locals := 300 }) (xPc D C b0 [.ref h0, .int 0, .int vv] [(h0, .inr (3, [.ref a0, .ref a1, .ref a2, .ref a3, .ref a4, .ref a5, .ref a6, .int 1, .ref a7, .ref a8, .ref a9, .ref a10, .ref a11, .int ff])), (a10, .inl (C 0, 5999, .inl f10))] sz) (va_Qv (fun u : xS => True) (xBw D (va_A [(h0, .inr (3, [.ref a0, .ref a1, .ref a2, .ref a3, .ref a4, .ref a5, .ref a6, .int 1, .ref a7, .ref a8, .ref a9, .ref a10, .ref a11, .int ff])), (a10, .inl (C 0, 5999, .inl f10))] sz) (fun u => [(h0, .inr (3, [.ref a0, .ref a1, .ref a2, .ref a3, .ref a4, .ref a5, .ref a6, .int 1, .ref a7, .ref a8, .ref a9, .ref a10, .ref a11, .int ff])), (a10, .inl (C 0, 5999, .inl (u.2 0)))])) (va_A [(h0, .inr (3, [.ref a0, .ref a1, .ref a2, .ref a3, .ref a4, .ref a5, .ref a6, .int 1, .ref a7, .ref a8, .ref a9, .ref a10, .ref a11, .int ff])), (a10, .inl (C 0, 5999, .inl f10))] sz)) 0 0 (va_A [(h0, .inr (3, [.ref a0, .ref a1, .ref a2, .ref a3, .ref a4, .ref a5, .ref a6, .int 1, .ref a7, .ref a8, .ref a9, .ref a10, .ref a11, .int ff])), (a10, .inl (C 0, 5999, .inl f10))] sz) := by
  refine Met.ofW (cc := cX3_putFlagsAt) (maxL := 3) (ret := none) (by decide) rfl ?_
  intro p e s m args below meth c s₁ B hml hv
  obtain ⟨rfl, hsz, hP, hK, hD0, hE⟩ := hv
  have hx := B.exec
  have hb := B.bytes
  have hr := B.returns
  have ht : ∀ w ∈ xb, w.before _ s = true := fun w h => atoms_spec (ws := xw yX3_putFlagsAt cX3_putFlagsAt 3 none) B.pre w (List.mem_cons_of_mem _ h)
  have hown : s.vm.findClass RX3 = some m.cls := findClass_of_methodNamed B.named
  have hlocks := B.notSynchronized
  subst hsz
  have hAb := x_Ab hD0 hE.1
  have hD := hD0.self (sz := s.heap.size)
  generalize hAe : va_A [(h0, .inr (3, [.ref a0, .ref a1, .ref a2, .ref a3, .ref a4, .ref a5, .ref a6, .int 1, .ref a7, .ref a8, .ref a9, .ref a10, .ref a11, .int ff])), (a10, .inl (C 0, 5999, .inl f10))] s.heap.size = A at hD hAb ⊢
  have hA : ∀ q : Nat, s.heap.size ≤ q → A q := fun q h => by rw [← hAe]; exact Or.inr h
  have hS : va_S A s.heap s.heap [] := va_S.rf
  have hP : va_P D vwCl [(h0, .inr (3, [.ref a0, .ref a1, .ref a2, .ref a3, .ref a4, .ref a5, .ref a6, .int 1, .ref a7, .ref a8, .ref a9, .ref a10, .ref a11, .int ff])), (a10, .inl (C 0, 5999, .inl f10))] s.heap := hP
  have hl := lv_entry ([.ref h0, .int 0, .int vv]) (n := 3) (Nat.le_of_ble_eq_true rfl)
  rw [lg_entry_eq]
  generalize (lg_sl ([.ref h0, .int 0, .int vv]) ++ List.replicate (3 - (lg_sl ([.ref h0, .int 0, .int vv])).length) Slot.unset).toArray = ls at hl ⊢
  have hl : lv_has ls 3 [(0, .ref h0), (1, .int 0), (2, .int vv)] := hl
  refine lv_aload_n hx hb dX3_putFlagsAt_0 rfl (lv_at hl 0 rfl) ?_
  refine lv_iload_n hx hb dX3_putFlagsAt_1 rfl (lv_at hl 1 rfl) ?_
  have hPc := hP.sub (ws' := [(h0, .inr (3, [.ref a0, .ref a1, .ref a2, .ref a3, .ref a4, .ref a5, .ref a6, .int 1, .ref a7, .ref a8, .ref a9, .ref a10, .ref a11, .int ff]))]) [0] rfl
  have hDc := hD.sub (ws' := [(h0, .inr (3, [.ref a0, .ref a1, .ref a2, .ref a3, .ref a4, .ref a5, .ref a6, .int 1, .ref a7, .ref a8, .ref a9, .ref a10, .ref a11, .int ff]))]) [0] (by decide) rfl
  have hFc := va_free (wc := [(h0, .inr (3, [.ref a0, .ref a1, .ref a2, .ref a3, .ref a4, .ref a5, .ref a6, .int 1, .ref a7, .ref a8, .ref a9, .ref a10, .ref a11, .int ff]))]) hD hS hA [0] rfl
  refine va_calli (va_runV (As := [.int 0]) (rest := []) ⟨hx, hb, hml, hown, ht⟩ (k3_isSlot0 l D C b0 s.heap.size h0 a0 a1 a2 a3 a4 a5 a6 a7 a8 a9 a10 a11 ff) (cwV 1 ht (xg_V m_248 m_249 m_250 m_217 m_166) rfl rfl rfl (by decide +kernel) ⟨Nat.le_of_ble_eq_true rfl, Nat.le_of_ble_eq_true rfl⟩) ⟨xPc_bl, va_recv hK hPc (ci := 3) (q0 := 0) rfl rfl, xPc_at hPc hK hDc hE hS hAb⟩ rfl rfl hl.1 rfl (lv_room (Nat.le_of_ble_eq_true rfl)) dX3_putFlagsAt_2 ⟨(by decide), (by decide)⟩) hS (fun q _ h => hFc q h) hFc (fun r_1 u_2 t H1 locs ht1 hvm hw hB hz1 hk1 hS => ?_)
  obtain ⟨hP1, hD1⟩ := hB
  rw [ht1] at hP1
  try dsimp only at hw
  obtain ⟨hP, hD⟩ := va_join (wr := [(a10, .inl (C 0, 5999, .inl f10))]) (w1 := [(h0, .inr (3, [.ref a0, .ref a1, .ref a2, .ref a3, .ref a4, .ref a5, .ref a6, .int 1, .ref a7, .ref a8, .ref a9, .ref a10, .ref a11, .int ff]))]) hP hD [0] [1] rfl rfl (by decide) (by decide) hk1 hFc hP1 hD1
  generalize H1 = H at hP hS ⊢
  have hP : va_P D vwCl [(a10, .inl (C 0, 5999, .inl f10)), (h0, .inr (3, [.ref a0, .ref a1, .ref a2, .ref a3, .ref a4, .ref a5, .ref a6, .int 1, .ref a7, .ref a8, .ref a9, .ref a10, .ref a11, .int ff]))] H := hP
  have hD : va_D A [(a10, .inl (C 0, 5999, .inl f10)), (h0, .inr (3, [.ref a0, .ref a1, .ref a2, .ref a3, .ref a4, .ref a5, .ref a6, .int 1, .ref a7, .ref a8, .ref a9, .ref a10, .ref a11, .int ff]))] := hD
  have hq_2 := hw
  obtain rfl : r_1 = (1 : Int32) := hw
  refine lv_if_eq (tgt := 15) hx hb dX3_putFlagsAt_5 (by decide) (fun c_5 => ?_) (fun c_5 => ?_)
  · exact absurd c_5 (by decide)
  refine lv_aload_n hx hb dX3_putFlagsAt_8 rfl (lv_at hl 0 rfl) ?_
  refine va_get (D := D) (ci := 3) (v := .ref a10) (C := RX3) (T := TX3) (N := 14) hx hb ht inX3 hown hK hP 1 rfl rfl 11 (by decide) (ht _ m_256) (fun _ h9 => h9) rfl dX3_putFlagsAt_9 ?_
  refine lv_iload_n hx hb dX3_putFlagsAt_12 rfl (lv_at hl 1 rfl) ?_
  refine lv_iload_n hx hb dX3_putFlagsAt_13 rfl (lv_at hl 2 rfl) ?_
  refine va_iast hx hb hK hP hD hS 0 0 rfl rfl (by unfold vp_in; decide) dX3_putFlagsAt_14 (fun H locs hP hD hS => ?_)
  have hP : va_P D vwCl [(a10, .inl (C 0, 5999, .inl ((upd f10 (Int32.toNatClampNeg 0) vv)))), (h0, .inr (3, [.ref a0, .ref a1, .ref a2, .ref a3, .ref a4, .ref a5, .ref a6, .int 1, .ref a7, .ref a8, .ref a9, .ref a10, .ref a11, .int ff]))] H := hP
  have hD : va_D A [(a10, .inl (C 0, 5999, .inl ((upd f10 (Int32.toNatClampNeg 0) vv)))), (h0, .inr (3, [.ref a0, .ref a1, .ref a2, .ref a3, .ref a4, .ref a5, .ref a6, .int 1, .ref a7, .ref a8, .ref a9, .ref a10, .ref a11, .int ff]))] := hD
  have hP9 := hP.sub (ws' := [(h0, .inr (3, [.ref a0, .ref a1, .ref a2, .ref a3, .ref a4, .ref a5, .ref a6, .int 1, .ref a7, .ref a8, .ref a9, .ref a10, .ref a11, .int ff])), (a10, .inl (C 0, 5999, .inl ((upd f10 (Int32.toNatClampNeg 0) vv))))]) [1, 0] rfl
  have hD9 := hD.sub (ws' := [(h0, .inr (3, [.ref a0, .ref a1, .ref a2, .ref a3, .ref a4, .ref a5, .ref a6, .int 1, .ref a7, .ref a8, .ref a9, .ref a10, .ref a11, .int ff])), (a10, .inl (C 0, 5999, .inl ((upd f10 (Int32.toNatClampNeg 0) vv))))]) [1, 0] (by decide) rfl
  refine W.widen (k := 0) (n := 0) (by decide) (by decide) ?_
  exact W.vret hx hb hr (fun t ht1 hW => ⟨⟨(xA [], xF [(upd f10 (Int32.toNatClampNeg 0) vv)]), rfl, by first | trivial | rfl | assumption | decide | (simp_all; done), by rw [ht1]; exact hP9, hD9⟩, hS.F ht1⟩) hS.2.2 dX3_putFlagsAt_15
set_option maxHeartbeats 4000000 in
set_option maxRecDepth 100000 in
theorem k3_addArray (l : Launch) (D : va_G) (C : Nat → ClassId) (b0 sz : Nat) (h0 : Nat) (a0 : Nat) (a1 : Nat) (a2 : Nat) (a3 : Nat) (a4 : Nat) (a5 : Nat) (a6 : Nat) (a7 : Nat) (a8 : Nat) (a9 : Nat) (a10 : Nat) (a11 : Nat) (f0 : Nat → Int32) (f1 : Nat → Int32) (f2 : Nat → Int32) (f3 : Nat → Int32) (f7 : Nat → Int32) (f8 : Nat → Int32) (f9 : Nat → Int32) (f10 : Nat → Int32) (f11 : Nat → Int32) (nn : Int32) : Met l yX3_addArray (xw yX3_addArray cX3_addArray 4 (some .int)) ({ frames := 32, cells := 0, slots := 0, locals := 600 }) (xPc D C b0 [.ref h0, .int nn] [(h0, .inr (3, [.ref a0, .ref a1, .ref a2, .ref a3, .ref a4, .ref a5, .ref a6, .int 0, .ref a7, .ref a8, .ref a9, .ref a10, .ref a11, .int 0])), (a0, .inl (C 0, 600, .inl f0)), (a1, .inl (C 0, 600, .inl f1)), (a2, .inl (C 1, 600, .inl f2)), (a3, .inl (C 0, 600, .inl f3)), (a7, .inl (C 0, 5999, .inl f7)), (a8, .inl (C 0, 5999, .inl f8)), (a9, .inl (C 0, 5999, .inl f9)), (a10, .inl (C 0, 5999, .inl f10)), (a11, .inl (C 0, 5999, .inl f11))] sz) (va_Qi (fun (r : Int32) (u : xS) => r = -2) (xBw D (va_A [(h0, .inr (3, [.ref a0, .ref a1, .ref a2, .ref a3, .ref a4, .ref a5, .ref a6, .int 0, .ref a7, .ref a8, .ref a9, .ref a10, .ref a11, .int 0])), (a0, .inl (C 0, 600, .inl f0)), (a1, .inl (C 0, 600, .inl f1)), (a2, .inl (C 1, 600, .inl f2)), (a3, .inl (C 0, 600, .inl f3)), (a7, .inl (C 0, 5999, .inl f7)), (a8, .inl (C 0, 5999, .inl f8)), (a9, .inl (C 0, 5999, .inl f9)), (a10, .inl (C 0, 5999, .inl f10)), (a11, .inl (C 0, 5999, .inl f11))] sz) (fun u => [])) (va_A [(h0, .inr (3, [.ref a0, .ref a1, .ref a2, .ref a3, .ref a4, .ref a5, .ref a6, .int 0, .ref a7, .ref a8, .ref a9, .ref a10, .ref a11, .int 0])), (a0, .inl (C 0, 600, .inl f0)), (a1, .inl (C 0, 600, .inl f1)), (a2, .inl (C 1, 600, .inl f2)), (a3, .inl (C 0, 600, .inl f3)), (a7, .inl (C 0, 5999, .inl f7)), (a8, .inl (C 0, 5999, .inl f8)), (a9, .inl (C 0, 5999, .inl f9)), (a10, .inl (C 0, 5999, .inl f10)), (a11, .inl (C 0, 5999, .inl f11))] sz)) 0 0 (va_A [(h0, .inr (3, [.ref a0, .ref a1, .ref a2, .ref a3, .ref a4, .ref a5, .ref a6, .int 0, .ref a7, .ref a8, .ref a9, .ref a10, .ref a11, .int 0])), (a0, .inl (C 0, 600, .inl f0)), (a1, .inl (C 0, 600, .inl f1)), (a2, .inl (C 1, 600, .inl f2)), (a3, .inl (C 0, 600, .inl f3)), (a7, .inl (C 0, 5999, .inl f7)), (a8, .inl (C 0, 5999, .inl f8)), (a9, .inl (C 0, 5999, .inl f9)), (a10, .inl (C 0, 5999, .inl f10)), (a11, .inl (C 0, 5999, .inl f11))] sz) := by
  refine Met.ofW (cc := cX3_addArray) (maxL := 4) (ret := (some .int)) (by decide) rfl ?_
  intro p e s m args below meth c s₁ B hml hv
  obtain ⟨rfl, hsz, hP, hK, hD0, hE⟩ := hv
  have hx := B.exec
  have hb := B.bytes
  have hr := B.returns
  have ht : ∀ w ∈ xb, w.before _ s = true := fun w h => atoms_spec (ws := xw yX3_addArray cX3_addArray 4 (some .int)) B.pre w (List.mem_cons_of_mem _ h)
  have hown : s.vm.findClass RX3 = some m.cls := findClass_of_methodNamed B.named
  have hlocks := B.notSynchronized
  subst hsz
  have hAb := x_Ab hD0 hE.1
  have hD := hD0.self (sz := s.heap.size)
  generalize hAe : va_A [(h0, .inr (3, [.ref a0, .ref a1, .ref a2, .ref a3, .ref a4, .ref a5, .ref a6, .int 0, .ref a7, .ref a8, .ref a9, .ref a10, .ref a11, .int 0])), (a0, .inl (C 0, 600, .inl f0)), (a1, .inl (C 0, 600, .inl f1)), (a2, .inl (C 1, 600, .inl f2)), (a3, .inl (C 0, 600, .inl f3)), (a7, .inl (C 0, 5999, .inl f7)), (a8, .inl (C 0, 5999, .inl f8)), (a9, .inl (C 0, 5999, .inl f9)), (a10, .inl (C 0, 5999, .inl f10)), (a11, .inl (C 0, 5999, .inl f11))] s.heap.size = A at hD hAb ⊢
  have hA : ∀ q : Nat, s.heap.size ≤ q → A q := fun q h => by rw [← hAe]; exact Or.inr h
  have hS : va_S A s.heap s.heap [] := va_S.rf
  have hP : va_P D vwCl [(h0, .inr (3, [.ref a0, .ref a1, .ref a2, .ref a3, .ref a4, .ref a5, .ref a6, .int 0, .ref a7, .ref a8, .ref a9, .ref a10, .ref a11, .int 0])), (a0, .inl (C 0, 600, .inl f0)), (a1, .inl (C 0, 600, .inl f1)), (a2, .inl (C 1, 600, .inl f2)), (a3, .inl (C 0, 600, .inl f3)), (a7, .inl (C 0, 5999, .inl f7)), (a8, .inl (C 0, 5999, .inl f8)), (a9, .inl (C 0, 5999, .inl f9)), (a10, .inl (C 0, 5999, .inl f10)), (a11, .inl (C 0, 5999, .inl f11))] s.heap := hP
  have hl := lv_entry ([.ref h0, .int nn]) (n := 4) (Nat.le_of_ble_eq_true rfl)
  rw [lg_entry_eq]
  generalize (lg_sl ([.ref h0, .int nn]) ++ List.replicate (4 - (lg_sl ([.ref h0, .int nn])).length) Slot.unset).toArray = ls at hl ⊢
  have hl : lv_has ls 4 [(0, .ref h0), (1, .int nn)] := hl
  refine lv_aload_n hx hb dX3_addArray_0 rfl (lv_at hl 0 rfl) ?_
  refine va_get (D := D) (ci := 3) (v := .int 0) (C := RX3) (T := TX3) (N := 14) hx hb ht inX3 hown hK hP 0 rfl rfl 13 (by decide) (ht _ m_251) (fun _ h9 => h9) rfl dX3_addArray_1 ?_
  refine lv_iconst (v := (-1)) hx hb dX3_addArray_4 (by decide) ?_
  refine lv_icmp_ne (tgt := 18) hx hb dX3_addArray_5 (by decide) (fun c_5 => ?_) (fun c_5 => ?_)
  rotate_left
  · exact absurd c_5 (by decide)
  refine lv_aload_n hx hb dX3_addArray_18 rfl (lv_at hl 0 rfl) ?_
  refine lv_iconst (v := 2) hx hb dX3_addArray_19 (by decide) ?_
  refine lv_iconst (v := (-1)) hx hb dX3_addArray_20 (by decide) ?_
  have hPc := hP.sub (ws' := [(h0, .inr (3, [.ref a0, .ref a1, .ref a2, .ref a3, .ref a4, .ref a5, .ref a6, .int 0, .ref a7, .ref a8, .ref a9, .ref a10, .ref a11, .int 0])), (a0, .inl (C 0, 600, .inl f0)), (a1, .inl (C 0, 600, .inl f1)), (a2, .inl (C 1, 600, .inl f2)), (a3, .inl (C 0, 600, .inl f3))]) [0, 1, 2, 3, 4] rfl
  have hDc := hD.sub (ws' := [(h0, .inr (3, [.ref a0, .ref a1, .ref a2, .ref a3, .ref a4, .ref a5, .ref a6, .int 0, .ref a7, .ref a8, .ref a9, .ref a10, .ref a11, .int 0])), (a0, .inl (C 0, 600, .inl f0)), (a1, .inl (C 0, 600, .inl f1)), (a2, .inl (C 1, 600, .inl f2)), (a3, .inl (C 0, 600, .inl f3))]) [0, 1, 2, 3, 4] (by decide) rfl
  have hFc := va_free (wc := [(h0, .inr (3, [.ref a0, .ref a1, .ref a2, .ref a3, .ref a4, .ref a5, .ref a6, .int 0, .ref a7, .ref a8, .ref a9, .ref a10, .ref a11, .int 0])), (a0, .inl (C 0, 600, .inl f0)), (a1, .inl (C 0, 600, .inl f1)), (a2, .inl (C 1, 600, .inl f2)), (a3, .inl (C 0, 600, .inl f3))]) hD hS hA [0, 1, 2, 3, 4] rfl
  refine va_calli (va_runV (As := [.int 2, .int (-1)]) (rest := []) ⟨hx, hb, hml, hown, ht⟩ (k3_add l D C b0 s.heap.size h0 a0 a1 a2 a3 a4 a5 a6 a7 a8 a9 a10 a11 f0 f1 f2 f3 2 (-1)) (cwV 2 ht (xg_V m_245 m_246 m_247 m_217 m_167) rfl rfl rfl (by decide +kernel) ⟨Nat.le_of_ble_eq_true rfl, Nat.le_of_ble_eq_true rfl⟩) ⟨xPc_bl, va_recv hK hPc (ci := 3) (q0 := 0) rfl rfl, xPc_at hPc hK hDc hE hS hAb⟩ rfl rfl hl.1 rfl (lv_room (Nat.le_of_ble_eq_true rfl)) dX3_addArray_21 ⟨(by decide), (by decide)⟩) hS (fun q _ h => hFc q h) hFc (fun r_1 u_2 t H1 locs ht1 hvm hw hB hz1 hk1 hS => ?_)
  obtain ⟨hP1, hD1⟩ := hB
  rw [ht1] at hP1
  try dsimp only at hw
  obtain ⟨hP, hD⟩ := va_join (wr := [(a7, .inl (C 0, 5999, .inl f7)), (a8, .inl (C 0, 5999, .inl f8)), (a9, .inl (C 0, 5999, .inl f9)), (a10, .inl (C 0, 5999, .inl f10)), (a11, .inl (C 0, 5999, .inl f11))]) (w1 := [(h0, .inr (3, [.ref a0, .ref a1, .ref a2, .ref a3, .ref a4, .ref a5, .ref a6, .int 1, .ref a7, .ref a8, .ref a9, .ref a10, .ref a11, .int 0])), (a0, .inl (C 0, 600, .inl (u_2.2 0))), (a1, .inl (C 0, 600, .inl (u_2.2 1))), (a2, .inl (C 1, 600, .inl (u_2.2 2))), (a3, .inl (C 0, 600, .inl (u_2.2 3)))]) hP hD [0, 1, 2, 3, 4] [5, 6, 7, 8, 9] rfl rfl (by decide) (by decide) hk1 hFc hP1 hD1
  generalize H1 = H at hP hS ⊢
  have hP : va_P D vwCl [(a7, .inl (C 0, 5999, .inl f7)), (a8, .inl (C 0, 5999, .inl f8)), (a9, .inl (C 0, 5999, .inl f9)), (a10, .inl (C 0, 5999, .inl f10)), (a11, .inl (C 0, 5999, .inl f11)), (h0, .inr (3, [.ref a0, .ref a1, .ref a2, .ref a3, .ref a4, .ref a5, .ref a6, .int 1, .ref a7, .ref a8, .ref a9, .ref a10, .ref a11, .int 0])), (a0, .inl (C 0, 600, .inl (u_2.2 0))), (a1, .inl (C 0, 600, .inl (u_2.2 1))), (a2, .inl (C 1, 600, .inl (u_2.2 2))), (a3, .inl (C 0, 600, .inl (u_2.2 3)))] H := hP
  have hD : va_D A [(a7, .inl (C 0, 5999, .inl f7)), (a8, .inl (C 0, 5999, .inl f8)), (a9, .inl (C 0, 5999, .inl f9)), (a10, .inl (C 0, 5999, .inl f10)), (a11, .inl (C 0, 5999, .inl f11)), (h0, .inr (3, [.ref a0, .ref a1, .ref a2, .ref a3, .ref a4, .ref a5, .ref a6, .int 1, .ref a7, .ref a8, .ref a9, .ref a10, .ref a11, .int 0])), (a0, .inl (C 0, 600, .inl (u_2.2 0))), (a1, .inl (C 0, 600, .inl (u_2.2 1))), (a2, .inl (C 1, 600, .inl (u_2.2 2))), (a3, .inl (C 0, 600, .inl (u_2.2 3)))] := hD
  have hq_21 := hw
  obtain rfl : r_1 = (-2 : Int32) := hw.1
  refine lv_istore_n (lv' := [(2, .int (-2)), (0, .ref h0), (1, .int nn)]) hx hb dX3_addArray_24 rfl hl (by decide) rfl (fun ls hl => ?_)
  refine lv_aload_n hx hb dX3_addArray_25 rfl (lv_at hl 1 rfl) ?_
  refine lv_iload_n hx hb dX3_addArray_26 rfl (lv_at hl 0 rfl) ?_
  refine lv_bipush (v := 100) hx hb dX3_addArray_27 (by decide) ?_
  have hPc := hP.sub (ws' := [(h0, .inr (3, [.ref a0, .ref a1, .ref a2, .ref a3, .ref a4, .ref a5, .ref a6, .int 1, .ref a7, .ref a8, .ref a9, .ref a10, .ref a11, .int 0])), (a3, .inl (C 0, 600, .inl (u_2.2 3))), (a7, .inl (C 0, 5999, .inl f7)), (a8, .inl (C 0, 5999, .inl f8)), (a9, .inl (C 0, 5999, .inl f9)), (a10, .inl (C 0, 5999, .inl f10)), (a11, .inl (C 0, 5999, .inl f11))]) [5, 9, 0, 1, 2, 3, 4] rfl
  have hDc := hD.sub (ws' := [(h0, .inr (3, [.ref a0, .ref a1, .ref a2, .ref a3, .ref a4, .ref a5, .ref a6, .int 1, .ref a7, .ref a8, .ref a9, .ref a10, .ref a11, .int 0])), (a3, .inl (C 0, 600, .inl (u_2.2 3))), (a7, .inl (C 0, 5999, .inl f7)), (a8, .inl (C 0, 5999, .inl f8)), (a9, .inl (C 0, 5999, .inl f9)), (a10, .inl (C 0, 5999, .inl f10)), (a11, .inl (C 0, 5999, .inl f11))]) [5, 9, 0, 1, 2, 3, 4] (by decide) rfl
  have hFc := va_free (wc := [(h0, .inr (3, [.ref a0, .ref a1, .ref a2, .ref a3, .ref a4, .ref a5, .ref a6, .int 1, .ref a7, .ref a8, .ref a9, .ref a10, .ref a11, .int 0])), (a3, .inl (C 0, 600, .inl (u_2.2 3))), (a7, .inl (C 0, 5999, .inl f7)), (a8, .inl (C 0, 5999, .inl f8)), (a9, .inl (C 0, 5999, .inl f9)), (a10, .inl (C 0, 5999, .inl f10)), (a11, .inl (C 0, 5999, .inl f11))]) hD hS hA [5, 9, 0, 1, 2, 3, 4] rfl
  refine va_calli (va_runV (As := [.int (-2), .int 100]) (rest := []) ⟨hx, hb, hml, hown, ht⟩ (k3_append l D C b0 H.size h0 a0 a1 a2 a3 a4 a5 a6 a7 a8 a9 a10 a11 (u_2.2 3) f7 f8 f9 f10 f11 100 (hq_21.2)) (cwV 2 ht (xg_V m_266 m_267 m_268 m_217 m_172) rfl rfl rfl (by decide +kernel) ⟨Nat.le_of_ble_eq_true rfl, Nat.le_of_ble_eq_true rfl⟩) ⟨xPc_bl, va_recv hK hPc (ci := 3) (q0 := 0) rfl rfl, xPc_at hPc hK hDc hE hS hAb⟩ rfl rfl hl.1 rfl (lv_room (Nat.le_of_ble_eq_true rfl)) dX3_addArray_29 ⟨(by decide), (by decide)⟩) hS (fun q _ h => hFc q h) hFc (fun r_3 u_4 t H1 locs ht1 hvm hw hB hz1 hk1 hS => ?_)
  obtain ⟨hP1, hD1⟩ := hB
  rw [ht1] at hP1
  try dsimp only at hw
  obtain ⟨hP, hD⟩ := va_join (wr := [(a0, .inl (C 0, 600, .inl (u_2.2 0))), (a1, .inl (C 0, 600, .inl (u_2.2 1))), (a2, .inl (C 1, 600, .inl (u_2.2 2)))]) (w1 := [(h0, .inr (3, [.ref a0, .ref a1, .ref a2, .ref a3, .ref a4, .ref a5, .ref a6, .int 1, .ref a7, .ref a8, .ref a9, .ref a10, .ref a11, .int (u_4.2 6 0)])), (a3, .inl (C 0, 600, .inl (u_4.2 0))), (a7, .inl (C 0, 5999, .inl (u_4.2 1))), (a8, .inl (C 0, 5999, .inl (u_4.2 2))), (a9, .inl (C 0, 5999, .inl (u_4.2 3))), (a10, .inl (C 0, 5999, .inl (u_4.2 4))), (a11, .inl (C 0, 5999, .inl (u_4.2 5)))]) hP hD [5, 9, 0, 1, 2, 3, 4] [6, 7, 8] rfl rfl (by decide) (by decide) hk1 hFc hP1 hD1
  generalize H1 = H at hP hS ⊢
  have hP : va_P D vwCl [(a0, .inl (C 0, 600, .inl (u_2.2 0))), (a1, .inl (C 0, 600, .inl (u_2.2 1))), (a2, .inl (C 1, 600, .inl (u_2.2 2))), (h0, .inr (3, [.ref a0, .ref a1, .ref a2, .ref a3, .ref a4, .ref a5, .ref a6, .int 1, .ref a7, .ref a8, .ref a9, .ref a10, .ref a11, .int (u_4.2 6 0)])), (a3, .inl (C 0, 600, .inl (u_4.2 0))), (a7, .inl (C 0, 5999, .inl (u_4.2 1))), (a8, .inl (C 0, 5999, .inl (u_4.2 2))), (a9, .inl (C 0, 5999, .inl (u_4.2 3))), (a10, .inl (C 0, 5999, .inl (u_4.2 4))), (a11, .inl (C 0, 5999, .inl (u_4.2 5)))] H := hP
  have hD : va_D A [(a0, .inl (C 0, 600, .inl (u_2.2 0))), (a1, .inl (C 0, 600, .inl (u_2.2 1))), (a2, .inl (C 1, 600, .inl (u_2.2 2))), (h0, .inr (3, [.ref a0, .ref a1, .ref a2, .ref a3, .ref a4, .ref a5, .ref a6, .int 1, .ref a7, .ref a8, .ref a9, .ref a10, .ref a11, .int (u_4.2 6 0)])), (a3, .inl (C 0, 600, .inl (u_4.2 0))), (a7, .inl (C 0, 5999, .inl (u_4.2 1))), (a8, .inl (C 0, 5999, .inl (u_4.2 2))), (a9, .inl (C 0, 5999, .inl (u_4.2 3))), (a10, .inl (C 0, 5999, .inl (u_4.2 4))), (a11, .inl (C 0, 5999, .inl (u_4.2 5)))] := hD
  have hq_29 := hw
  obtain rfl : r_3 = (0 : Int32) := hw
  refine lv_istore_n (lv' := [(3, .int 0), (2, .int (-2)), (0, .ref h0), (1, .int nn)]) hx hb dX3_addArray_32 rfl hl (by decide) rfl (fun ls hl => ?_)
  refine lv_aload_n hx hb dX3_addArray_33 rfl (lv_at hl 2 rfl) ?_
  refine lv_iload_n hx hb dX3_addArray_34 rfl (lv_at hl 0 rfl) ?_
  refine lv_iload_n hx hb dX3_addArray_35 rfl (lv_at hl 3 rfl) ?_
  have hPc := hP.sub (ws' := [(h0, .inr (3, [.ref a0, .ref a1, .ref a2, .ref a3, .ref a4, .ref a5, .ref a6, .int 1, .ref a7, .ref a8, .ref a9, .ref a10, .ref a11, .int (u_4.2 6 0)])), (a8, .inl (C 0, 5999, .inl (u_4.2 2)))]) [3, 6] rfl
  have hDc := hD.sub (ws' := [(h0, .inr (3, [.ref a0, .ref a1, .ref a2, .ref a3, .ref a4, .ref a5, .ref a6, .int 1, .ref a7, .ref a8, .ref a9, .ref a10, .ref a11, .int (u_4.2 6 0)])), (a8, .inl (C 0, 5999, .inl (u_4.2 2)))]) [3, 6] (by decide) rfl
  have hFc := va_free (wc := [(h0, .inr (3, [.ref a0, .ref a1, .ref a2, .ref a3, .ref a4, .ref a5, .ref a6, .int 1, .ref a7, .ref a8, .ref a9, .ref a10, .ref a11, .int (u_4.2 6 0)])), (a8, .inl (C 0, 5999, .inl (u_4.2 2)))]) hD hS hA [3, 6] rfl
  refine va_callv (va_runV (As := [.int 0, .int nn]) (rest := []) ⟨hx, hb, hml, hown, ht⟩ (k3_putValueAt l D C b0 H.size h0 a0 a1 a2 a3 a4 a5 a6 a7 a8 a9 a10 a11 (u_4.2 2) (u_4.2 6 0) nn) (cwV 2 ht (xg_V m_269 m_270 m_271 m_217 m_173) rfl rfl rfl (by decide +kernel) ⟨Nat.le_of_ble_eq_true rfl, Nat.le_of_ble_eq_true rfl⟩) ⟨xPc_bl, va_recv hK hPc (ci := 3) (q0 := 0) rfl rfl, xPc_at hPc hK hDc hE hS hAb⟩ rfl rfl hl.1 rfl (lv_room (Nat.le_of_ble_eq_true rfl)) dX3_addArray_36 ⟨(by decide), (by decide)⟩) hS (fun q _ h => hFc q h) hFc (fun u_5 t H1 locs ht1 hvm hw hB hz1 hk1 hS => ?_)
  obtain ⟨hP1, hD1⟩ := hB
  rw [ht1] at hP1
  try dsimp only at hw
  obtain ⟨hP, hD⟩ := va_join (wr := [(a0, .inl (C 0, 600, .inl (u_2.2 0))), (a1, .inl (C 0, 600, .inl (u_2.2 1))), (a2, .inl (C 1, 600, .inl (u_2.2 2))), (a3, .inl (C 0, 600, .inl (u_4.2 0))), (a7, .inl (C 0, 5999, .inl (u_4.2 1))), (a9, .inl (C 0, 5999, .inl (u_4.2 3))), (a10, .inl (C 0, 5999, .inl (u_4.2 4))), (a11, .inl (C 0, 5999, .inl (u_4.2 5)))]) (w1 := [(h0, .inr (3, [.ref a0, .ref a1, .ref a2, .ref a3, .ref a4, .ref a5, .ref a6, .int 1, .ref a7, .ref a8, .ref a9, .ref a10, .ref a11, .int (u_4.2 6 0)])), (a8, .inl (C 0, 5999, .inl (u_5.2 0)))]) hP hD [3, 6] [0, 1, 2, 4, 5, 7, 8, 9] rfl rfl (by decide) (by decide) hk1 hFc hP1 hD1
  generalize H1 = H at hP hS ⊢
  have hP : va_P D vwCl [(a0, .inl (C 0, 600, .inl (u_2.2 0))), (a1, .inl (C 0, 600, .inl (u_2.2 1))), (a2, .inl (C 1, 600, .inl (u_2.2 2))), (a3, .inl (C 0, 600, .inl (u_4.2 0))), (a7, .inl (C 0, 5999, .inl (u_4.2 1))), (a9, .inl (C 0, 5999, .inl (u_4.2 3))), (a10, .inl (C 0, 5999, .inl (u_4.2 4))), (a11, .inl (C 0, 5999, .inl (u_4.2 5))), (h0, .inr (3, [.ref a0, .ref a1, .ref a2, .ref a3, .ref a4, .ref a5, .ref a6, .int 1, .ref a7, .ref a8, .ref a9, .ref a10, .ref a11, .int (u_4.2 6 0)])), (a8, .inl (C 0, 5999, .inl (u_5.2 0)))] H := hP
  have hD : va_D A [(a0, .inl (C 0, 600, .inl (u_2.2 0))), (a1, .inl (C 0, 600, .inl (u_2.2 1))), (a2, .inl (C 1, 600, .inl (u_2.2 2))), (a3, .inl (C 0, 600, .inl (u_4.2 0))), (a7, .inl (C 0, 5999, .inl (u_4.2 1))), (a9, .inl (C 0, 5999, .inl (u_4.2 3))), (a10, .inl (C 0, 5999, .inl (u_4.2 4))), (a11, .inl (C 0, 5999, .inl (u_4.2 5))), (h0, .inr (3, [.ref a0, .ref a1, .ref a2, .ref a3, .ref a4, .ref a5, .ref a6, .int 1, .ref a7, .ref a8, .ref a9, .ref a10, .ref a11, .int (u_4.2 6 0)])), (a8, .inl (C 0, 5999, .inl (u_5.2 0)))] := hD
  have hq_36 := hw
  refine lv_aload_n hx hb dX3_addArray_39 rfl (lv_at hl 2 rfl) ?_
  refine lv_iload_n hx hb dX3_addArray_40 rfl (lv_at hl 0 rfl) ?_
  refine lv_iconst (v := 2) hx hb dX3_addArray_41 (by decide) ?_
  have hPc := hP.sub (ws' := [(h0, .inr (3, [.ref a0, .ref a1, .ref a2, .ref a3, .ref a4, .ref a5, .ref a6, .int 1, .ref a7, .ref a8, .ref a9, .ref a10, .ref a11, .int (u_4.2 6 0)])), (a10, .inl (C 0, 5999, .inl (u_4.2 4)))]) [8, 6] rfl
  have hDc := hD.sub (ws' := [(h0, .inr (3, [.ref a0, .ref a1, .ref a2, .ref a3, .ref a4, .ref a5, .ref a6, .int 1, .ref a7, .ref a8, .ref a9, .ref a10, .ref a11, .int (u_4.2 6 0)])), (a10, .inl (C 0, 5999, .inl (u_4.2 4)))]) [8, 6] (by decide) rfl
  have hFc := va_free (wc := [(h0, .inr (3, [.ref a0, .ref a1, .ref a2, .ref a3, .ref a4, .ref a5, .ref a6, .int 1, .ref a7, .ref a8, .ref a9, .ref a10, .ref a11, .int (u_4.2 6 0)])), (a10, .inl (C 0, 5999, .inl (u_4.2 4)))]) hD hS hA [8, 6] rfl
  refine va_callv (va_runV (As := [.int 0, .int 2]) (rest := []) ⟨hx, hb, hml, hown, ht⟩ (k3_putFlagsAt l D C b0 H.size h0 a0 a1 a2 a3 a4 a5 a6 a7 a8 a9 a10 a11 (u_4.2 4) (u_4.2 6 0) 2) (cwV 2 ht (xg_V m_272 m_273 m_274 m_217 m_174) rfl rfl rfl (by decide +kernel) ⟨Nat.le_of_ble_eq_true rfl, Nat.le_of_ble_eq_true rfl⟩) ⟨xPc_bl, va_recv hK hPc (ci := 3) (q0 := 0) rfl rfl, xPc_at hPc hK hDc hE hS hAb⟩ rfl rfl hl.1 rfl (lv_room (Nat.le_of_ble_eq_true rfl)) dX3_addArray_42 ⟨(by decide), (by decide)⟩) hS (fun q _ h => hFc q h) hFc (fun u_6 t H1 locs ht1 hvm hw hB hz1 hk1 hS => ?_)
  obtain ⟨hP1, hD1⟩ := hB
  rw [ht1] at hP1
  try dsimp only at hw
  obtain ⟨hP, hD⟩ := va_join (wr := [(a0, .inl (C 0, 600, .inl (u_2.2 0))), (a1, .inl (C 0, 600, .inl (u_2.2 1))), (a2, .inl (C 1, 600, .inl (u_2.2 2))), (a3, .inl (C 0, 600, .inl (u_4.2 0))), (a7, .inl (C 0, 5999, .inl (u_4.2 1))), (a9, .inl (C 0, 5999, .inl (u_4.2 3))), (a11, .inl (C 0, 5999, .inl (u_4.2 5))), (a8, .inl (C 0, 5999, .inl (u_5.2 0)))]) (w1 := [(h0, .inr (3, [.ref a0, .ref a1, .ref a2, .ref a3, .ref a4, .ref a5, .ref a6, .int 1, .ref a7, .ref a8, .ref a9, .ref a10, .ref a11, .int (u_4.2 6 0)])), (a10, .inl (C 0, 5999, .inl (u_6.2 0)))]) hP hD [8, 6] [0, 1, 2, 3, 4, 5, 7, 9] rfl rfl (by decide) (by decide) hk1 hFc hP1 hD1
  generalize H1 = H at hP hS ⊢
  have hP : va_P D vwCl [(a0, .inl (C 0, 600, .inl (u_2.2 0))), (a1, .inl (C 0, 600, .inl (u_2.2 1))), (a2, .inl (C 1, 600, .inl (u_2.2 2))), (a3, .inl (C 0, 600, .inl (u_4.2 0))), (a7, .inl (C 0, 5999, .inl (u_4.2 1))), (a9, .inl (C 0, 5999, .inl (u_4.2 3))), (a11, .inl (C 0, 5999, .inl (u_4.2 5))), (a8, .inl (C 0, 5999, .inl (u_5.2 0))), (h0, .inr (3, [.ref a0, .ref a1, .ref a2, .ref a3, .ref a4, .ref a5, .ref a6, .int 1, .ref a7, .ref a8, .ref a9, .ref a10, .ref a11, .int (u_4.2 6 0)])), (a10, .inl (C 0, 5999, .inl (u_6.2 0)))] H := hP
  have hD : va_D A [(a0, .inl (C 0, 600, .inl (u_2.2 0))), (a1, .inl (C 0, 600, .inl (u_2.2 1))), (a2, .inl (C 1, 600, .inl (u_2.2 2))), (a3, .inl (C 0, 600, .inl (u_4.2 0))), (a7, .inl (C 0, 5999, .inl (u_4.2 1))), (a9, .inl (C 0, 5999, .inl (u_4.2 3))), (a11, .inl (C 0, 5999, .inl (u_4.2 5))), (a8, .inl (C 0, 5999, .inl (u_5.2 0))), (h0, .inr (3, [.ref a0, .ref a1, .ref a2, .ref a3, .ref a4, .ref a5, .ref a6, .int 1, .ref a7, .ref a8, .ref a9, .ref a10, .ref a11, .int (u_4.2 6 0)])), (a10, .inl (C 0, 5999, .inl (u_6.2 0)))] := hD
  have hq_42 := hw
  refine lv_iload_n hx hb dX3_addArray_45 rfl (lv_at hl 1 rfl) ?_
  have hP9 := hP.sub (ws' := []) [] rfl
  have hD9 := hD.sub (ws' := []) [] (by decide) rfl
  refine W.widen (k := 0) (n := 0) (by decide) (by decide) ?_
  exact W.iret (v := (-2)) hx hb hr (fun t ht1 hW => ⟨⟨(-2), (xA [], xF []), rfl, by first | trivial | rfl | assumption | decide | (simp_all; done), by rw [ht1]; exact hP9, hD9⟩, hS.F ht1⟩) hS.2.2 dX3_addArray_46
set_option maxHeartbeats 4000000 in
set_option maxRecDepth 100000 in
theorem k3_putParts (l : Launch) (D : va_G) (C : Nat → ClassId) (b0 sz : Nat) (h0 : Nat) (a0 : Nat) (a1 : Nat) (a2 : Nat) (a3 : Nat) (a4 : Nat) (a5 : Nat) (a6 : Nat) (a7 : Nat) (a8 : Nat) (a9 : Nat) (a10 : Nat) (a11 : Nat) (f4 : Nat → Int32) (f5 : Nat → Int32) (f6 : Nat → Int32) (ff : Int32) (va : Int32) (vb : Int32) (vc : Int32) : Met l yX3_putParts (xw yX3_putParts cX3_putParts 6 none) ({ frames := 16, cells := 0, slots := 0, locals := 300 }) (xPc D C b0 [.ref h0, .int (-2), .int va, .int vb, .int vc] [(h0, .inr (3, [.ref a0, .ref a1, .ref a2, .ref a3, .ref a4, .ref a5, .ref a6, .int 1, .ref a7, .ref a8, .ref a9, .ref a10, .ref a11, .int ff])), (a4, .inl (C 0, 600, .inl f4)), (a5, .inl (C 0, 600, .inl f5)), (a6, .inl (C 0, 600, .inl f6))] sz) (va_Qv (fun u : xS => True) (xBw D (va_A [(h0, .inr (3, [.ref a0, .ref a1, .ref a2, .ref a3, .ref a4, .ref a5, .ref a6, .int 1, .ref a7, .ref a8, .ref a9, .ref a10, .ref a11, .int ff])), (a4, .inl (C 0, 600, .inl f4)), (a5, .inl (C 0, 600, .inl f5)), (a6, .inl (C 0, 600, .inl f6))] sz) (fun u => [])) (va_A [(h0, .inr (3, [.ref a0, .ref a1, .ref a2, .ref a3, .ref a4, .ref a5, .ref a6, .int 1, .ref a7, .ref a8, .ref a9, .ref a10, .ref a11, .int ff])), (a4, .inl (C 0, 600, .inl f4)), (a5, .inl (C 0, 600, .inl f5)), (a6, .inl (C 0, 600, .inl f6))] sz)) 0 0 (va_A [(h0, .inr (3, [.ref a0, .ref a1, .ref a2, .ref a3, .ref a4, .ref a5, .ref a6, .int 1, .ref a7, .ref a8, .ref a9, .ref a10, .ref a11, .int ff])), (a4, .inl (C 0, 600, .inl f4)), (a5, .inl (C 0, 600, .inl f5)), (a6, .inl (C 0, 600, .inl f6))] sz) := by
  refine Met.ofW (cc := cX3_putParts) (maxL := 6) (ret := none) (by decide) rfl ?_
  intro p e s m args below meth c s₁ B hml hv
  obtain ⟨rfl, hsz, hP, hK, hD0, hE⟩ := hv
  have hx := B.exec
  have hb := B.bytes
  have hr := B.returns
  have ht : ∀ w ∈ xb, w.before _ s = true := fun w h => atoms_spec (ws := xw yX3_putParts cX3_putParts 6 none) B.pre w (List.mem_cons_of_mem _ h)
  have hown : s.vm.findClass RX3 = some m.cls := findClass_of_methodNamed B.named
  have hlocks := B.notSynchronized
  subst hsz
  have hAb := x_Ab hD0 hE.1
  have hD := hD0.self (sz := s.heap.size)
  generalize hAe : va_A [(h0, .inr (3, [.ref a0, .ref a1, .ref a2, .ref a3, .ref a4, .ref a5, .ref a6, .int 1, .ref a7, .ref a8, .ref a9, .ref a10, .ref a11, .int ff])), (a4, .inl (C 0, 600, .inl f4)), (a5, .inl (C 0, 600, .inl f5)), (a6, .inl (C 0, 600, .inl f6))] s.heap.size = A at hD hAb ⊢
  have hA : ∀ q : Nat, s.heap.size ≤ q → A q := fun q h => by rw [← hAe]; exact Or.inr h
  have hS : va_S A s.heap s.heap [] := va_S.rf
  have hP : va_P D vwCl [(h0, .inr (3, [.ref a0, .ref a1, .ref a2, .ref a3, .ref a4, .ref a5, .ref a6, .int 1, .ref a7, .ref a8, .ref a9, .ref a10, .ref a11, .int ff])), (a4, .inl (C 0, 600, .inl f4)), (a5, .inl (C 0, 600, .inl f5)), (a6, .inl (C 0, 600, .inl f6))] s.heap := hP
  have hl := lv_entry ([.ref h0, .int (-2), .int va, .int vb, .int vc]) (n := 6) (Nat.le_of_ble_eq_true rfl)
  rw [lg_entry_eq]
  generalize (lg_sl ([.ref h0, .int (-2), .int va, .int vb, .int vc]) ++ List.replicate (6 - (lg_sl ([.ref h0, .int (-2), .int va, .int vb, .int vc])).length) Slot.unset).toArray = ls at hl ⊢
  have hl : lv_has ls 6 [(0, .ref h0), (1, .int (-2)), (2, .int va), (3, .int vb), (4, .int vc)] := hl
  refine lv_aload_n hx hb dX3_putParts_0 rfl (lv_at hl 0 rfl) ?_
  refine lv_iload_n hx hb dX3_putParts_1 rfl (lv_at hl 1 rfl) ?_
  have hPc := hP.sub (ws' := [(h0, .inr (3, [.ref a0, .ref a1, .ref a2, .ref a3, .ref a4, .ref a5, .ref a6, .int 1, .ref a7, .ref a8, .ref a9, .ref a10, .ref a11, .int ff]))]) [0] rfl
  have hDc := hD.sub (ws' := [(h0, .inr (3, [.ref a0, .ref a1, .ref a2, .ref a3, .ref a4, .ref a5, .ref a6, .int 1, .ref a7, .ref a8, .ref a9, .ref a10, .ref a11, .int ff]))]) [0] (by decide) rfl
  have hFc := va_free (wc := [(h0, .inr (3, [.ref a0, .ref a1, .ref a2, .ref a3, .ref a4, .ref a5, .ref a6, .int 1, .ref a7, .ref a8, .ref a9, .ref a10, .ref a11, .int ff]))]) hD hS hA [0] rfl
  refine va_calli (va_runV (As := [.int (-2)]) (rest := []) ⟨hx, hb, hml, hown, ht⟩ (k3_rowOf1 l D C b0 s.heap.size h0 a0 a1 a2 a3 a4 a5 a6 a7 a8 a9 a10 a11 ff) (cwV 1 ht (xg_V m_214 m_215 m_216 m_217 m_157) rfl rfl rfl (by decide +kernel) ⟨Nat.le_of_ble_eq_true rfl, Nat.le_of_ble_eq_true rfl⟩) ⟨xPc_bl, va_recv hK hPc (ci := 3) (q0 := 0) rfl rfl, xPc_at hPc hK hDc hE hS hAb⟩ rfl rfl hl.1 rfl (lv_room (Nat.le_of_ble_eq_true rfl)) dX3_putParts_2 ⟨(by decide), (by decide)⟩) hS (fun q _ h => hFc q h) hFc (fun r_1 u_2 t H1 locs ht1 hvm hw hB hz1 hk1 hS => ?_)
  obtain ⟨hP1, hD1⟩ := hB
  rw [ht1] at hP1
  try dsimp only at hw
  obtain ⟨hP, hD⟩ := va_join (wr := [(a4, .inl (C 0, 600, .inl f4)), (a5, .inl (C 0, 600, .inl f5)), (a6, .inl (C 0, 600, .inl f6))]) (w1 := [(h0, .inr (3, [.ref a0, .ref a1, .ref a2, .ref a3, .ref a4, .ref a5, .ref a6, .int 1, .ref a7, .ref a8, .ref a9, .ref a10, .ref a11, .int ff]))]) hP hD [0] [1, 2, 3] rfl rfl (by decide) (by decide) hk1 hFc hP1 hD1
  generalize H1 = H at hP hS ⊢
  have hP : va_P D vwCl [(a4, .inl (C 0, 600, .inl f4)), (a5, .inl (C 0, 600, .inl f5)), (a6, .inl (C 0, 600, .inl f6)), (h0, .inr (3, [.ref a0, .ref a1, .ref a2, .ref a3, .ref a4, .ref a5, .ref a6, .int 1, .ref a7, .ref a8, .ref a9, .ref a10, .ref a11, .int ff]))] H := hP
  have hD : va_D A [(a4, .inl (C 0, 600, .inl f4)), (a5, .inl (C 0, 600, .inl f5)), (a6, .inl (C 0, 600, .inl f6)), (h0, .inr (3, [.ref a0, .ref a1, .ref a2, .ref a3, .ref a4, .ref a5, .ref a6, .int 1, .ref a7, .ref a8, .ref a9, .ref a10, .ref a11, .int ff]))] := hD
  have hq_2 := hw
  obtain rfl : r_1 = (0 : Int32) := hw
  refine lv_istore (lv' := [(5, .int 0), (0, .ref h0), (1, .int (-2)), (2, .int va), (3, .int vb), (4, .int vc)]) hx hb dX3_putParts_5 hl (by decide) rfl (fun ls hl => ?_)
  refine lv_iload hx hb dX3_putParts_7 (lv_at hl 0 rfl) ?_
  refine lv_if_lt (tgt := 37) hx hb dX3_putParts_9 (by decide) (fun c_9 => ?_) (fun c_9 => ?_)
  · exact absurd c_9 (by decide)
  refine lv_aload_n hx hb dX3_putParts_12 rfl (lv_at hl 1 rfl) ?_
  refine va_get (D := D) (ci := 3) (v := .ref a4) (C := RX3) (T := TX3) (N := 14) hx hb ht inX3 hown hK hP 3 rfl rfl 4 (by decide) (ht _ m_275) (fun _ h9 => h9) rfl dX3_putParts_13 ?_
  refine lv_iload hx hb dX3_putParts_16 (lv_at hl 0 rfl) ?_
  refine lv_iload_n hx hb dX3_putParts_18 rfl (lv_at hl 3 rfl) ?_
  refine va_iast hx hb hK hP hD hS 0 0 rfl rfl (by unfold vp_in; decide) dX3_putParts_19 (fun H locs hP hD hS => ?_)
  have hP : va_P D vwCl [(a4, .inl (C 0, 600, .inl ((upd f4 (Int32.toNatClampNeg 0) va)))), (a5, .inl (C 0, 600, .inl f5)), (a6, .inl (C 0, 600, .inl f6)), (h0, .inr (3, [.ref a0, .ref a1, .ref a2, .ref a3, .ref a4, .ref a5, .ref a6, .int 1, .ref a7, .ref a8, .ref a9, .ref a10, .ref a11, .int ff]))] H := hP
  have hD : va_D A [(a4, .inl (C 0, 600, .inl ((upd f4 (Int32.toNatClampNeg 0) va)))), (a5, .inl (C 0, 600, .inl f5)), (a6, .inl (C 0, 600, .inl f6)), (h0, .inr (3, [.ref a0, .ref a1, .ref a2, .ref a3, .ref a4, .ref a5, .ref a6, .int 1, .ref a7, .ref a8, .ref a9, .ref a10, .ref a11, .int ff]))] := hD
  refine lv_aload_n hx hb dX3_putParts_20 rfl (lv_at hl 1 rfl) ?_
  refine va_get (D := D) (ci := 3) (v := .ref a5) (C := RX3) (T := TX3) (N := 14) hx hb ht inX3 hown hK hP 3 rfl rfl 5 (by decide) (ht _ m_276) (fun _ h9 => h9) rfl dX3_putParts_21 ?_
  refine lv_iload hx hb dX3_putParts_24 (lv_at hl 0 rfl) ?_
  refine lv_iload_n hx hb dX3_putParts_26 rfl (lv_at hl 4 rfl) ?_
  refine va_iast hx hb hK hP hD hS 1 0 rfl rfl (by unfold vp_in; decide) dX3_putParts_27 (fun H locs hP hD hS => ?_)
  have hP : va_P D vwCl [(a4, .inl (C 0, 600, .inl ((upd f4 (Int32.toNatClampNeg 0) va)))), (a5, .inl (C 0, 600, .inl ((upd f5 (Int32.toNatClampNeg 0) vb)))), (a6, .inl (C 0, 600, .inl f6)), (h0, .inr (3, [.ref a0, .ref a1, .ref a2, .ref a3, .ref a4, .ref a5, .ref a6, .int 1, .ref a7, .ref a8, .ref a9, .ref a10, .ref a11, .int ff]))] H := hP
  have hD : va_D A [(a4, .inl (C 0, 600, .inl ((upd f4 (Int32.toNatClampNeg 0) va)))), (a5, .inl (C 0, 600, .inl ((upd f5 (Int32.toNatClampNeg 0) vb)))), (a6, .inl (C 0, 600, .inl f6)), (h0, .inr (3, [.ref a0, .ref a1, .ref a2, .ref a3, .ref a4, .ref a5, .ref a6, .int 1, .ref a7, .ref a8, .ref a9, .ref a10, .ref a11, .int ff]))] := hD
  refine lv_aload_n hx hb dX3_putParts_28 rfl (lv_at hl 1 rfl) ?_
  refine va_get (D := D) (ci := 3) (v := .ref a6) (C := RX3) (T := TX3) (N := 14) hx hb ht inX3 hown hK hP 3 rfl rfl 6 (by decide) (ht _ m_277) (fun _ h9 => h9) rfl dX3_putParts_29 ?_
  refine lv_iload hx hb dX3_putParts_32 (lv_at hl 0 rfl) ?_
  refine lv_iload hx hb dX3_putParts_34 (lv_at hl 5 rfl) ?_
  refine va_iast hx hb hK hP hD hS 2 0 rfl rfl (by unfold vp_in; decide) dX3_putParts_36 (fun H locs hP hD hS => ?_)
  have hP : va_P D vwCl [(a4, .inl (C 0, 600, .inl ((upd f4 (Int32.toNatClampNeg 0) va)))), (a5, .inl (C 0, 600, .inl ((upd f5 (Int32.toNatClampNeg 0) vb)))), (a6, .inl (C 0, 600, .inl ((upd f6 (Int32.toNatClampNeg 0) vc)))), (h0, .inr (3, [.ref a0, .ref a1, .ref a2, .ref a3, .ref a4, .ref a5, .ref a6, .int 1, .ref a7, .ref a8, .ref a9, .ref a10, .ref a11, .int ff]))] H := hP
  have hD : va_D A [(a4, .inl (C 0, 600, .inl ((upd f4 (Int32.toNatClampNeg 0) va)))), (a5, .inl (C 0, 600, .inl ((upd f5 (Int32.toNatClampNeg 0) vb)))), (a6, .inl (C 0, 600, .inl ((upd f6 (Int32.toNatClampNeg 0) vc)))), (h0, .inr (3, [.ref a0, .ref a1, .ref a2, .ref a3, .ref a4, .ref a5, .ref a6, .int 1, .ref a7, .ref a8, .ref a9, .ref a10, .ref a11, .int ff]))] := hD
  have hP9 := hP.sub (ws' := []) [] rfl
  have hD9 := hD.sub (ws' := []) [] (by decide) rfl
  refine W.widen (k := 0) (n := 0) (by decide) (by decide) ?_
  exact W.vret hx hb hr (fun t ht1 hW => ⟨⟨(xA [], xF []), rfl, by first | trivial | rfl | assumption | decide | (simp_all; done), by rw [ht1]; exact hP9, hD9⟩, hS.F ht1⟩) hS.2.2 dX3_putParts_37
set_option maxHeartbeats 4000000 in
set_option maxRecDepth 100000 in
theorem k3_addFunction (l : Launch) (D : va_G) (C : Nat → ClassId) (b0 sz : Nat) (h0 : Nat) (a0 : Nat) (a1 : Nat) (a2 : Nat) (a3 : Nat) (a4 : Nat) (a5 : Nat) (a6 : Nat) (a7 : Nat) (a8 : Nat) (a9 : Nat) (a10 : Nat) (a11 : Nat) (f0 : Nat → Int32) (f1 : Nat → Int32) (f2 : Nat → Int32) (f3 : Nat → Int32) (f4 : Nat → Int32) (f5 : Nat → Int32) (f6 : Nat → Int32) (va : Int32) (vb : Int32) (vc : Int32) : Met l yX3_addFunction (xw yX3_addFunction cX3_addFunction 5 (some .int)) ({ frames := 24, cells := 0, slots := 0, locals := 450 }) (xPc D C b0 [.ref h0, .int va, .int vb, .int vc] [(h0, .inr (3, [.ref a0, .ref a1, .ref a2, .ref a3, .ref a4, .ref a5, .ref a6, .int 0, .ref a7, .ref a8, .ref a9, .ref a10, .ref a11, .int 0])), (a0, .inl (C 0, 600, .inl f0)), (a1, .inl (C 0, 600, .inl f1)), (a2, .inl (C 1, 600, .inl f2)), (a3, .inl (C 0, 600, .inl f3)), (a4, .inl (C 0, 600, .inl f4)), (a5, .inl (C 0, 600, .inl f5)), (a6, .inl (C 0, 600, .inl f6))] sz) (va_Qi (fun (r : Int32) (u : xS) => r = -2) (xBw D (va_A [(h0, .inr (3, [.ref a0, .ref a1, .ref a2, .ref a3, .ref a4, .ref a5, .ref a6, .int 0, .ref a7, .ref a8, .ref a9, .ref a10, .ref a11, .int 0])), (a0, .inl (C 0, 600, .inl f0)), (a1, .inl (C 0, 600, .inl f1)), (a2, .inl (C 1, 600, .inl f2)), (a3, .inl (C 0, 600, .inl f3)), (a4, .inl (C 0, 600, .inl f4)), (a5, .inl (C 0, 600, .inl f5)), (a6, .inl (C 0, 600, .inl f6))] sz) (fun u => [])) (va_A [(h0, .inr (3, [.ref a0, .ref a1, .ref a2, .ref a3, .ref a4, .ref a5, .ref a6, .int 0, .ref a7, .ref a8, .ref a9, .ref a10, .ref a11, .int 0])), (a0, .inl (C 0, 600, .inl f0)), (a1, .inl (C 0, 600, .inl f1)), (a2, .inl (C 1, 600, .inl f2)), (a3, .inl (C 0, 600, .inl f3)), (a4, .inl (C 0, 600, .inl f4)), (a5, .inl (C 0, 600, .inl f5)), (a6, .inl (C 0, 600, .inl f6))] sz)) 0 0 (va_A [(h0, .inr (3, [.ref a0, .ref a1, .ref a2, .ref a3, .ref a4, .ref a5, .ref a6, .int 0, .ref a7, .ref a8, .ref a9, .ref a10, .ref a11, .int 0])), (a0, .inl (C 0, 600, .inl f0)), (a1, .inl (C 0, 600, .inl f1)), (a2, .inl (C 1, 600, .inl f2)), (a3, .inl (C 0, 600, .inl f3)), (a4, .inl (C 0, 600, .inl f4)), (a5, .inl (C 0, 600, .inl f5)), (a6, .inl (C 0, 600, .inl f6))] sz) := by
  refine Met.ofW (cc := cX3_addFunction) (maxL := 5) (ret := (some .int)) (by decide) rfl ?_
  intro p e s m args below meth c s₁ B hml hv
  obtain ⟨rfl, hsz, hP, hK, hD0, hE⟩ := hv
  have hx := B.exec
  have hb := B.bytes
  have hr := B.returns
  have ht : ∀ w ∈ xb, w.before _ s = true := fun w h => atoms_spec (ws := xw yX3_addFunction cX3_addFunction 5 (some .int)) B.pre w (List.mem_cons_of_mem _ h)
  have hown : s.vm.findClass RX3 = some m.cls := findClass_of_methodNamed B.named
  have hlocks := B.notSynchronized
  subst hsz
  have hAb := x_Ab hD0 hE.1
  have hD := hD0.self (sz := s.heap.size)
  generalize hAe : va_A [(h0, .inr (3, [.ref a0, .ref a1, .ref a2, .ref a3, .ref a4, .ref a5, .ref a6, .int 0, .ref a7, .ref a8, .ref a9, .ref a10, .ref a11, .int 0])), (a0, .inl (C 0, 600, .inl f0)), (a1, .inl (C 0, 600, .inl f1)), (a2, .inl (C 1, 600, .inl f2)), (a3, .inl (C 0, 600, .inl f3)), (a4, .inl (C 0, 600, .inl f4)), (a5, .inl (C 0, 600, .inl f5)), (a6, .inl (C 0, 600, .inl f6))] s.heap.size = A at hD hAb ⊢
  have hA : ∀ q : Nat, s.heap.size ≤ q → A q := fun q h => by rw [← hAe]; exact Or.inr h
  have hS : va_S A s.heap s.heap [] := va_S.rf
  have hP : va_P D vwCl [(h0, .inr (3, [.ref a0, .ref a1, .ref a2, .ref a3, .ref a4, .ref a5, .ref a6, .int 0, .ref a7, .ref a8, .ref a9, .ref a10, .ref a11, .int 0])), (a0, .inl (C 0, 600, .inl f0)), (a1, .inl (C 0, 600, .inl f1)), (a2, .inl (C 1, 600, .inl f2)), (a3, .inl (C 0, 600, .inl f3)), (a4, .inl (C 0, 600, .inl f4)), (a5, .inl (C 0, 600, .inl f5)), (a6, .inl (C 0, 600, .inl f6))] s.heap := hP
  have hl := lv_entry ([.ref h0, .int va, .int vb, .int vc]) (n := 5) (Nat.le_of_ble_eq_true rfl)
  rw [lg_entry_eq]
  generalize (lg_sl ([.ref h0, .int va, .int vb, .int vc]) ++ List.replicate (5 - (lg_sl ([.ref h0, .int va, .int vb, .int vc])).length) Slot.unset).toArray = ls at hl ⊢
  have hl : lv_has ls 5 [(0, .ref h0), (1, .int va), (2, .int vb), (3, .int vc)] := hl
  refine lv_aload_n hx hb dX3_addFunction_0 rfl (lv_at hl 0 rfl) ?_
  refine lv_iconst (v := 3) hx hb dX3_addFunction_1 (by decide) ?_
  refine lv_iconst (v := (-1)) hx hb dX3_addFunction_2 (by decide) ?_
  have hPc := hP.sub (ws' := [(h0, .inr (3, [.ref a0, .ref a1, .ref a2, .ref a3, .ref a4, .ref a5, .ref a6, .int 0, .ref a7, .ref a8, .ref a9, .ref a10, .ref a11, .int 0])), (a0, .inl (C 0, 600, .inl f0)), (a1, .inl (C 0, 600, .inl f1)), (a2, .inl (C 1, 600, .inl f2)), (a3, .inl (C 0, 600, .inl f3))]) [0, 1, 2, 3, 4] rfl
  have hDc := hD.sub (ws' := [(h0, .inr (3, [.ref a0, .ref a1, .ref a2, .ref a3, .ref a4, .ref a5, .ref a6, .int 0, .ref a7, .ref a8, .ref a9, .ref a10, .ref a11, .int 0])), (a0, .inl (C 0, 600, .inl f0)), (a1, .inl (C 0, 600, .inl f1)), (a2, .inl (C 1, 600, .inl f2)), (a3, .inl (C 0, 600, .inl f3))]) [0, 1, 2, 3, 4] (by decide) rfl
  have hFc := va_free (wc := [(h0, .inr (3, [.ref a0, .ref a1, .ref a2, .ref a3, .ref a4, .ref a5, .ref a6, .int 0, .ref a7, .ref a8, .ref a9, .ref a10, .ref a11, .int 0])), (a0, .inl (C 0, 600, .inl f0)), (a1, .inl (C 0, 600, .inl f1)), (a2, .inl (C 1, 600, .inl f2)), (a3, .inl (C 0, 600, .inl f3))]) hD hS hA [0, 1, 2, 3, 4] rfl
  refine va_calli (va_runV (As := [.int 3, .int (-1)]) (rest := []) ⟨hx, hb, hml, hown, ht⟩ (k3_add l D C b0 s.heap.size h0 a0 a1 a2 a3 a4 a5 a6 a7 a8 a9 a10 a11 f0 f1 f2 f3 3 (-1)) (cwV 2 ht (xg_V m_245 m_246 m_247 m_217 m_167) rfl rfl rfl (by decide +kernel) ⟨Nat.le_of_ble_eq_true rfl, Nat.le_of_ble_eq_true rfl⟩) ⟨xPc_bl, va_recv hK hPc (ci := 3) (q0 := 0) rfl rfl, xPc_at hPc hK hDc hE hS hAb⟩ rfl rfl hl.1 rfl (lv_room (Nat.le_of_ble_eq_true rfl)) dX3_addFunction_3 ⟨(by decide), (by decide)⟩) hS (fun q _ h => hFc q h) hFc (fun r_1 u_2 t H1 locs ht1 hvm hw hB hz1 hk1 hS => ?_)
  obtain ⟨hP1, hD1⟩ := hB
  rw [ht1] at hP1
  try dsimp only at hw
  obtain ⟨hP, hD⟩ := va_join (wr := [(a4, .inl (C 0, 600, .inl f4)), (a5, .inl (C 0, 600, .inl f5)), (a6, .inl (C 0, 600, .inl f6))]) (w1 := [(h0, .inr (3, [.ref a0, .ref a1, .ref a2, .ref a3, .ref a4, .ref a5, .ref a6, .int 1, .ref a7, .ref a8, .ref a9, .ref a10, .ref a11, .int 0])), (a0, .inl (C 0, 600, .inl (u_2.2 0))), (a1, .inl (C 0, 600, .inl (u_2.2 1))), (a2, .inl (C 1, 600, .inl (u_2.2 2))), (a3, .inl (C 0, 600, .inl (u_2.2 3)))]) hP hD [0, 1, 2, 3, 4] [5, 6, 7] rfl rfl (by decide) (by decide) hk1 hFc hP1 hD1
  generalize H1 = H at hP hS ⊢
  have hP : va_P D vwCl [(a4, .inl (C 0, 600, .inl f4)), (a5, .inl (C 0, 600, .inl f5)), (a6, .inl (C 0, 600, .inl f6)), (h0, .inr (3, [.ref a0, .ref a1, .ref a2, .ref a3, .ref a4, .ref a5, .ref a6, .int 1, .ref a7, .ref a8, .ref a9, .ref a10, .ref a11, .int 0])), (a0, .inl (C 0, 600, .inl (u_2.2 0))), (a1, .inl (C 0, 600, .inl (u_2.2 1))), (a2, .inl (C 1, 600, .inl (u_2.2 2))), (a3, .inl (C 0, 600, .inl (u_2.2 3)))] H := hP
  have hD : va_D A [(a4, .inl (C 0, 600, .inl f4)), (a5, .inl (C 0, 600, .inl f5)), (a6, .inl (C 0, 600, .inl f6)), (h0, .inr (3, [.ref a0, .ref a1, .ref a2, .ref a3, .ref a4, .ref a5, .ref a6, .int 1, .ref a7, .ref a8, .ref a9, .ref a10, .ref a11, .int 0])), (a0, .inl (C 0, 600, .inl (u_2.2 0))), (a1, .inl (C 0, 600, .inl (u_2.2 1))), (a2, .inl (C 1, 600, .inl (u_2.2 2))), (a3, .inl (C 0, 600, .inl (u_2.2 3)))] := hD
  have hq_3 := hw
  obtain rfl : r_1 = (-2 : Int32) := hw.1
  refine lv_istore (lv' := [(4, .int (-2)), (0, .ref h0), (1, .int va), (2, .int vb), (3, .int vc)]) hx hb dX3_addFunction_6 hl (by decide) rfl (fun ls hl => ?_)
  refine lv_aload_n hx hb dX3_addFunction_8 rfl (lv_at hl 1 rfl) ?_
  refine lv_iload hx hb dX3_addFunction_9 (lv_at hl 0 rfl) ?_
  refine lv_iload_n hx hb dX3_addFunction_11 rfl (lv_at hl 2 rfl) ?_
  refine lv_iload_n hx hb dX3_addFunction_12 rfl (lv_at hl 3 rfl) ?_
  refine lv_iload_n hx hb dX3_addFunction_13 rfl (lv_at hl 4 rfl) ?_
  have hPc := hP.sub (ws' := [(h0, .inr (3, [.ref a0, .ref a1, .ref a2, .ref a3, .ref a4, .ref a5, .ref a6, .int 1, .ref a7, .ref a8, .ref a9, .ref a10, .ref a11, .int 0])), (a4, .inl (C 0, 600, .inl f4)), (a5, .inl (C 0, 600, .inl f5)), (a6, .inl (C 0, 600, .inl f6))]) [3, 0, 1, 2] rfl
  have hDc := hD.sub (ws' := [(h0, .inr (3, [.ref a0, .ref a1, .ref a2, .ref a3, .ref a4, .ref a5, .ref a6, .int 1, .ref a7, .ref a8, .ref a9, .ref a10, .ref a11, .int 0])), (a4, .inl (C 0, 600, .inl f4)), (a5, .inl (C 0, 600, .inl f5)), (a6, .inl (C 0, 600, .inl f6))]) [3, 0, 1, 2] (by decide) rfl
  have hFc := va_free (wc := [(h0, .inr (3, [.ref a0, .ref a1, .ref a2, .ref a3, .ref a4, .ref a5, .ref a6, .int 1, .ref a7, .ref a8, .ref a9, .ref a10, .ref a11, .int 0])), (a4, .inl (C 0, 600, .inl f4)), (a5, .inl (C 0, 600, .inl f5)), (a6, .inl (C 0, 600, .inl f6))]) hD hS hA [3, 0, 1, 2] rfl
  refine va_callv (va_runV (As := [.int (-2), .int va, .int vb, .int vc]) (rest := []) ⟨hx, hb, hml, hown, ht⟩ (k3_putParts l D C b0 H.size h0 a0 a1 a2 a3 a4 a5 a6 a7 a8 a9 a10 a11 f4 f5 f6 0 va vb vc) (cwV 4 ht (xg_V m_278 m_279 m_280 m_217 m_176) rfl rfl rfl (by decide +kernel) ⟨Nat.le_of_ble_eq_true rfl, Nat.le_of_ble_eq_true rfl⟩) ⟨xPc_bl, va_recv hK hPc (ci := 3) (q0 := 0) rfl rfl, xPc_at hPc hK hDc hE hS hAb⟩ rfl rfl hl.1 rfl (lv_room (Nat.le_of_ble_eq_true rfl)) dX3_addFunction_14 ⟨(by decide), (by decide)⟩) hS (fun q _ h => hFc q h) hFc (fun u_3 t H1 locs ht1 hvm hw hB hz1 hk1 hS => ?_)
  obtain ⟨hP1, hD1⟩ := hB
  rw [ht1] at hP1
  try dsimp only at hw
  obtain ⟨hP, hD⟩ := va_join (wr := [(a0, .inl (C 0, 600, .inl (u_2.2 0))), (a1, .inl (C 0, 600, .inl (u_2.2 1))), (a2, .inl (C 1, 600, .inl (u_2.2 2))), (a3, .inl (C 0, 600, .inl (u_2.2 3)))]) (w1 := []) hP hD [3, 0, 1, 2] [4, 5, 6, 7] rfl rfl (by decide) (by decide) hk1 hFc hP1 hD1
  generalize H1 = H at hP hS ⊢
  have hP : va_P D vwCl [(a0, .inl (C 0, 600, .inl (u_2.2 0))), (a1, .inl (C 0, 600, .inl (u_2.2 1))), (a2, .inl (C 1, 600, .inl (u_2.2 2))), (a3, .inl (C 0, 600, .inl (u_2.2 3)))] H := hP
  have hD : va_D A [(a0, .inl (C 0, 600, .inl (u_2.2 0))), (a1, .inl (C 0, 600, .inl (u_2.2 1))), (a2, .inl (C 1, 600, .inl (u_2.2 2))), (a3, .inl (C 0, 600, .inl (u_2.2 3)))] := hD
  have hq_14 := hw
  refine lv_iload hx hb dX3_addFunction_17 (lv_at hl 0 rfl) ?_
  have hP9 := hP.sub (ws' := []) [] rfl
  have hD9 := hD.sub (ws' := []) [] (by decide) rfl
  refine W.widen (k := 0) (n := 0) (by decide) (by decide) ?_
  exact W.iret (v := (-2)) hx hb hr (fun t ht1 hW => ⟨⟨(-2), (xA [], xF []), rfl, by first | trivial | rfl | assumption | decide | (simp_all; done), by rw [ht1]; exact hP9, hD9⟩, hS.F ht1⟩) hS.2.2 dX3_addFunction_19
set_option maxHeartbeats 4000000 in
set_option maxRecDepth 100000 in
theorem k5_requireValue (l : Launch) (hl0 : l.stackTraces = false) (D : va_G) (C : Nat → ClassId) (b0 sz : Nat) (h0 : Nat) (s0 : Nat) (de : Nat) (kl : Nat) (tl : Nat) (cu : Nat) (hk : Nat) (ca : Nat) (a0 : Nat) (a1 : Nat) (a2 : Nat) (a3 : Nat) (a4 : Nat) (a5 : Nat) (a6 : Nat) (a7 : Nat) (a8 : Nat) (a9 : Nat) (a10 : Nat) (a11 : Nat) (v0 : Int32) : vx_Met l yX5_requireValue (xw yX5_requireValue cX5_requireValue 3 none) ({ frames := 32, cells := 1, slots := 6, locals := 600 }) (xPc D C b0 [.ref h0, .int v0] [(h0, .inr (5, [.ref s0, .ref de, .ref kl, .ref tl, .ref cu, .ref hk, .ref ca, .int 0, .int 0, .int (-1), .int 0, .int 0])), (s0, .inr (3, [.ref a0, .ref a1, .ref a2, .ref a3, .ref a4, .ref a5, .ref a6, .int 0, .ref a7, .ref a8, .ref a9, .ref a10, .ref a11, .int 0]))] sz) (va_Qv (fun u : xS => ¬ v0 < -1 ∧ ¬ 1250 ≤ v0) (xBw D (va_A [(h0, .inr (5, [.ref s0, .ref de, .ref kl, .ref tl, .ref cu, .ref hk, .ref ca, .int 0, .int 0, .int (-1), .int 0, .int 0])), (s0, .inr (3, [.ref a0, .ref a1, .ref a2, .ref a3, .ref a4, .ref a5, .ref a6, .int 0, .ref a7, .ref a8, .ref a9, .ref a10, .ref a11, .int 0]))] sz) (fun u => [(h0, .inr (5, [.ref s0, .ref de, .ref kl, .ref tl, .ref cu, .ref hk, .ref ca, .int 0, .int 0, .int (-1), .int 0, .int 0])), (s0, .inr (3, [.ref a0, .ref a1, .ref a2, .ref a3, .ref a4, .ref a5, .ref a6, .int 0, .ref a7, .ref a8, .ref a9, .ref a10, .ref a11, .int 0]))])) (va_A [(h0, .inr (5, [.ref s0, .ref de, .ref kl, .ref tl, .ref cu, .ref hk, .ref ca, .int 0, .int 0, .int (-1), .int 0, .int 0])), (s0, .inr (3, [.ref a0, .ref a1, .ref a2, .ref a3, .ref a4, .ref a5, .ref a6, .int 0, .ref a7, .ref a8, .ref a9, .ref a10, .ref a11, .int 0]))] sz)) (xX xIAE (v0 < -1 ∨ ¬ ¬ 1250 ≤ v0) (va_A [(h0, .inr (5, [.ref s0, .ref de, .ref kl, .ref tl, .ref cu, .ref hk, .ref ca, .int 0, .int 0, .int (-1), .int 0, .int 0])), (s0, .inr (3, [.ref a0, .ref a1, .ref a2, .ref a3, .ref a4, .ref a5, .ref a6, .int 0, .ref a7, .ref a8, .ref a9, .ref a10, .ref a11, .int 0]))] sz)) 1 6 (va_A [(h0, .inr (5, [.ref s0, .ref de, .ref kl, .ref tl, .ref cu, .ref hk, .ref ca, .int 0, .int 0, .int (-1), .int 0, .int 0])), (s0, .inr (3, [.ref a0, .ref a1, .ref a2, .ref a3, .ref a4, .ref a5, .ref a6, .int 0, .ref a7, .ref a8, .ref a9, .ref a10, .ref a11, .int 0]))] sz) := by
  refine vx_ofW (cc := cX5_requireValue) (maxL := 3) (ret := none) (by decide) rfl ?_
  intro p e s m args below meth c s₁ B hml htab hv
  obtain ⟨rfl, hsz, hP, hK, hD0, hE⟩ := hv
  have hx := B.exec
  have hb := B.bytes
  have hr := B.returns
  have ht : ∀ w ∈ xb, w.before _ s = true := fun w h => atoms_spec (ws := xw yX5_requireValue cX5_requireValue 3 none) B.pre w (List.mem_cons_of_mem _ h)
  have hown : s.vm.findClass RX5 = some m.cls := findClass_of_methodNamed B.named
  have hlocks := B.notSynchronized
  subst hsz
  have hAb := x_Ab hD0 hE.1
  have hD := hD0.self (sz := s.heap.size)
  generalize hAe : va_A [(h0, .inr (5, [.ref s0, .ref de, .ref kl, .ref tl, .ref cu, .ref hk, .ref ca, .int 0, .int 0, .int (-1), .int 0, .int 0])), (s0, .inr (3, [.ref a0, .ref a1, .ref a2, .ref a3, .ref a4, .ref a5, .ref a6, .int 0, .ref a7, .ref a8, .ref a9, .ref a10, .ref a11, .int 0]))] s.heap.size = A at hD hAb ⊢
  have hA : ∀ q : Nat, s.heap.size ≤ q → A q := fun q h => by rw [← hAe]; exact Or.inr h
  have hS : va_S A s.heap s.heap [] := va_S.rf
  have hP : va_P D vwCl [(h0, .inr (5, [.ref s0, .ref de, .ref kl, .ref tl, .ref cu, .ref hk, .ref ca, .int 0, .int 0, .int (-1), .int 0, .int 0])), (s0, .inr (3, [.ref a0, .ref a1, .ref a2, .ref a3, .ref a4, .ref a5, .ref a6, .int 0, .ref a7, .ref a8, .ref a9, .ref a10, .ref a11, .int 0]))] s.heap := hP
  have hl := lv_entry ([.ref h0, .int v0]) (n := 3) (Nat.le_of_ble_eq_true rfl)
  rw [lg_entry_eq]
  generalize (lg_sl ([.ref h0, .int v0]) ++ List.replicate (3 - (lg_sl ([.ref h0, .int v0])).length) Slot.unset).toArray = ls at hl ⊢
  have hl : lv_has ls 3 [(0, .ref h0), (1, .int v0)] := hl
  refine lv_iload_n hx hb dX5_requireValue_0 rfl (lv_at hl 1 rfl) ?_
  refine lv_iconst (v := (-1)) hx hb dX5_requireValue_1 (by decide) ?_
  refine lv_icmp_lt (tgt := 16) hx hb dX5_requireValue_2 (by decide) (fun c_2 => ?_) (fun c_2 => ?_)
  · skip
    refine lv_iconst (v := 0) hx hb dX5_requireValue_16 (by decide) ?_
    refine lv_istore_n (lv' := [(2, .int 0), (0, .ref h0), (1, .int v0)]) hx hb dX5_requireValue_17 rfl hl (by decide) rfl (fun ls hl => ?_)
    refine lv_iload_n hx hb dX5_requireValue_18 rfl (lv_at hl 0 rfl) ?_
    refine lv_if_ne (tgt := 43) hx hb dX5_requireValue_19 (by decide) (fun c_19 => ?_) (fun c_19 => ?_)
    · exact absurd c_19 (by decide)
    refine lv_aload_n hx hb dX5_requireValue_22 rfl (lv_at hl 1 rfl) ?_
    refine va_get (D := D) (ci := 5) (v := .ref s0) (C := RX5) (T := TX5) (N := 12) hx hb ht inX5 hown hK hP 0 rfl rfl 0 (by decide) (ht _ m_233) (fun _ h9 => h9) rfl dX5_requireValue_23 ?_
    refine lv_iload_n hx hb dX5_requireValue_26 rfl (lv_at hl 2 rfl) ?_
    have hPc := hP.sub (ws' := [(s0, .inr (3, [.ref a0, .ref a1, .ref a2, .ref a3, .ref a4, .ref a5, .ref a6, .int 0, .ref a7, .ref a8, .ref a9, .ref a10, .ref a11, .int 0]))]) [1] rfl
    have hDc := hD.sub (ws' := [(s0, .inr (3, [.ref a0, .ref a1, .ref a2, .ref a3, .ref a4, .ref a5, .ref a6, .int 0, .ref a7, .ref a8, .ref a9, .ref a10, .ref a11, .int 0]))]) [1] (by decide) rfl
    have hFc := va_free (wc := [(s0, .inr (3, [.ref a0, .ref a1, .ref a2, .ref a3, .ref a4, .ref a5, .ref a6, .int 0, .ref a7, .ref a8, .ref a9, .ref a10, .ref a11, .int 0]))]) hD hS hA [1] rfl
    refine va_calli (va_runV (As := [.int v0]) (rest := []) ⟨hx, hb, hml, hown, ht⟩ (k3_isObject0 l D C b0 s.heap.size s0 a0 a1 a2 a3 a4 a5 a6 a7 a8 a9 a10 a11 v0) (cwV 1 ht (xg_V m_234 m_235 m_236 m_217 m_158) rfl rfl rfl (by decide +kernel) ⟨Nat.le_of_ble_eq_true rfl, Nat.le_of_ble_eq_true rfl⟩) ⟨xPc_bl, va_recv hK hPc (ci := 3) (q0 := 0) rfl rfl, xPc_at hPc hK hDc hE hS hAb⟩ rfl rfl hl.1 rfl (lv_room (Nat.le_of_ble_eq_true rfl)) dX5_requireValue_27 ⟨(by decide), (by decide)⟩) hS (fun q _ h => hFc q h) hFc (fun r_1 u_2 t H1 locs ht1 hvm hw hB hz1 hk1 hS => ?_)
    obtain ⟨hP1, hD1⟩ := hB
    rw [ht1] at hP1
    try dsimp only at hw
    obtain ⟨hP, hD⟩ := va_join (wr := [(h0, .inr (5, [.ref s0, .ref de, .ref kl, .ref tl, .ref cu, .ref hk, .ref ca, .int 0, .int 0, .int (-1), .int 0, .int 0]))]) (w1 := [(s0, .inr (3, [.ref a0, .ref a1, .ref a2, .ref a3, .ref a4, .ref a5, .ref a6, .int 0, .ref a7, .ref a8, .ref a9, .ref a10, .ref a11, .int 0]))]) hP hD [1] [0] rfl rfl (by decide) (by decide) hk1 hFc hP1 hD1
    generalize H1 = H at hP hS ⊢
    have hP : va_P D vwCl [(h0, .inr (5, [.ref s0, .ref de, .ref kl, .ref tl, .ref cu, .ref hk, .ref ca, .int 0, .int 0, .int (-1), .int 0, .int 0])), (s0, .inr (3, [.ref a0, .ref a1, .ref a2, .ref a3, .ref a4, .ref a5, .ref a6, .int 0, .ref a7, .ref a8, .ref a9, .ref a10, .ref a11, .int 0]))] H := hP
    have hD : va_D A [(h0, .inr (5, [.ref s0, .ref de, .ref kl, .ref tl, .ref cu, .ref hk, .ref ca, .int 0, .int 0, .int (-1), .int 0, .int 0])), (s0, .inr (3, [.ref a0, .ref a1, .ref a2, .ref a3, .ref a4, .ref a5, .ref a6, .int 0, .ref a7, .ref a8, .ref a9, .ref a10, .ref a11, .int 0]))] := hD
    have hq_27 := hw
    obtain rfl : r_1 = (0 : Int32) := hw
    refine lv_if_ne (tgt := 43) hx hb dX5_requireValue_30 (by decide) (fun c_30 => ?_) (fun c_30 => ?_)
    · exact absurd c_30 (by decide)
    exact x_thrI (text := "no VALUE") (mc := 1) (ms := 6) hx hb hl0 hown ht hE hAb (by decide +kernel) hS (by rw [hml]; exact hl.1) dX5_requireValue_33 dX5_requireValue_36 dX5_requireValue_37 dX5_requireValue_39 dX5_requireValue_42 htab (Nat.le_of_ble_eq_true rfl) (Nat.le_of_ble_eq_true rfl) (by decide) (by decide) hlocks (fun t hv1 hz1 hq1 => ⟨(), by first | exact Or.inl c_2 | exact Or.inr (fun h => h c_9), rfl, x_F hS hz1 hq1⟩) hS.2.2 (by decide) (by decide)
  · skip
    refine lv_iload_n hx hb dX5_requireValue_5 rfl (lv_at hl 1 rfl) ?_
    refine lv_sipush (v := 1250) hx hb dX5_requireValue_6 (by decide) ?_
    refine lv_icmp_ge (tgt := 16) hx hb dX5_requireValue_9 (by decide) (fun c_9 => ?_) (fun c_9 => ?_)
    · skip
      refine lv_iconst (v := 0) hx hb dX5_requireValue_16 (by decide) ?_
      refine lv_istore_n (lv' := [(2, .int 0), (0, .ref h0), (1, .int v0)]) hx hb dX5_requireValue_17 rfl hl (by decide) rfl (fun ls hl => ?_)
      refine lv_iload_n hx hb dX5_requireValue_18 rfl (lv_at hl 0 rfl) ?_
      refine lv_if_ne (tgt := 43) hx hb dX5_requireValue_19 (by decide) (fun c_19 => ?_) (fun c_19 => ?_)
      · exact absurd c_19 (by decide)
      refine lv_aload_n hx hb dX5_requireValue_22 rfl (lv_at hl 1 rfl) ?_
      refine va_get (D := D) (ci := 5) (v := .ref s0) (C := RX5) (T := TX5) (N := 12) hx hb ht inX5 hown hK hP 0 rfl rfl 0 (by decide) (ht _ m_233) (fun _ h9 => h9) rfl dX5_requireValue_23 ?_
      refine lv_iload_n hx hb dX5_requireValue_26 rfl (lv_at hl 2 rfl) ?_
      have hPc := hP.sub (ws' := [(s0, .inr (3, [.ref a0, .ref a1, .ref a2, .ref a3, .ref a4, .ref a5, .ref a6, .int 0, .ref a7, .ref a8, .ref a9, .ref a10, .ref a11, .int 0]))]) [1] rfl
      have hDc := hD.sub (ws' := [(s0, .inr (3, [.ref a0, .ref a1, .ref a2, .ref a3, .ref a4, .ref a5, .ref a6, .int 0, .ref a7, .ref a8, .ref a9, .ref a10, .ref a11, .int 0]))]) [1] (by decide) rfl
      have hFc := va_free (wc := [(s0, .inr (3, [.ref a0, .ref a1, .ref a2, .ref a3, .ref a4, .ref a5, .ref a6, .int 0, .ref a7, .ref a8, .ref a9, .ref a10, .ref a11, .int 0]))]) hD hS hA [1] rfl
      refine va_calli (va_runV (As := [.int v0]) (rest := []) ⟨hx, hb, hml, hown, ht⟩ (k3_isObject0 l D C b0 s.heap.size s0 a0 a1 a2 a3 a4 a5 a6 a7 a8 a9 a10 a11 v0) (cwV 1 ht (xg_V m_234 m_235 m_236 m_217 m_158) rfl rfl rfl (by decide +kernel) ⟨Nat.le_of_ble_eq_true rfl, Nat.le_of_ble_eq_true rfl⟩) ⟨xPc_bl, va_recv hK hPc (ci := 3) (q0 := 0) rfl rfl, xPc_at hPc hK hDc hE hS hAb⟩ rfl rfl hl.1 rfl (lv_room (Nat.le_of_ble_eq_true rfl)) dX5_requireValue_27 ⟨(by decide), (by decide)⟩) hS (fun q _ h => hFc q h) hFc (fun r_3 u_4 t H1 locs ht1 hvm hw hB hz1 hk1 hS => ?_)
      obtain ⟨hP1, hD1⟩ := hB
      rw [ht1] at hP1
      try dsimp only at hw
      obtain ⟨hP, hD⟩ := va_join (wr := [(h0, .inr (5, [.ref s0, .ref de, .ref kl, .ref tl, .ref cu, .ref hk, .ref ca, .int 0, .int 0, .int (-1), .int 0, .int 0]))]) (w1 := [(s0, .inr (3, [.ref a0, .ref a1, .ref a2, .ref a3, .ref a4, .ref a5, .ref a6, .int 0, .ref a7, .ref a8, .ref a9, .ref a10, .ref a11, .int 0]))]) hP hD [1] [0] rfl rfl (by decide) (by decide) hk1 hFc hP1 hD1
      generalize H1 = H at hP hS ⊢
      have hP : va_P D vwCl [(h0, .inr (5, [.ref s0, .ref de, .ref kl, .ref tl, .ref cu, .ref hk, .ref ca, .int 0, .int 0, .int (-1), .int 0, .int 0])), (s0, .inr (3, [.ref a0, .ref a1, .ref a2, .ref a3, .ref a4, .ref a5, .ref a6, .int 0, .ref a7, .ref a8, .ref a9, .ref a10, .ref a11, .int 0]))] H := hP
      have hD : va_D A [(h0, .inr (5, [.ref s0, .ref de, .ref kl, .ref tl, .ref cu, .ref hk, .ref ca, .int 0, .int 0, .int (-1), .int 0, .int 0])), (s0, .inr (3, [.ref a0, .ref a1, .ref a2, .ref a3, .ref a4, .ref a5, .ref a6, .int 0, .ref a7, .ref a8, .ref a9, .ref a10, .ref a11, .int 0]))] := hD
      have hq_27 := hw
      obtain rfl : r_3 = (0 : Int32) := hw
      refine lv_if_ne (tgt := 43) hx hb dX5_requireValue_30 (by decide) (fun c_30 => ?_) (fun c_30 => ?_)
      · exact absurd c_30 (by decide)
      exact x_thrI (text := "no VALUE") (mc := 1) (ms := 6) hx hb hl0 hown ht hE hAb (by decide +kernel) hS (by rw [hml]; exact hl.1) dX5_requireValue_33 dX5_requireValue_36 dX5_requireValue_37 dX5_requireValue_39 dX5_requireValue_42 htab (Nat.le_of_ble_eq_true rfl) (Nat.le_of_ble_eq_true rfl) (by decide) (by decide) hlocks (fun t hv1 hz1 hq1 => ⟨(), by first | exact Or.inl c_2 | exact Or.inr (fun h => h c_9), rfl, x_F hS hz1 hq1⟩) hS.2.2 (by decide) (by decide)
    · skip
      refine lv_iconst (v := 1) hx hb dX5_requireValue_12 (by decide) ?_
      refine lv_goto (tgt := 17) hx hb dX5_requireValue_13 (by decide) ?_
      refine lv_istore_n (lv' := [(2, .int 1), (0, .ref h0), (1, .int v0)]) hx hb dX5_requireValue_17 rfl hl (by decide) rfl (fun ls hl => ?_)
      refine lv_iload_n hx hb dX5_requireValue_18 rfl (lv_at hl 0 rfl) ?_
      refine lv_if_ne (tgt := 43) hx hb dX5_requireValue_19 (by decide) (fun c_19 => ?_) (fun c_19 => ?_)
      rotate_left
      · exact absurd c_19 (by decide)
      have hP9 := hP.sub (ws' := [(h0, .inr (5, [.ref s0, .ref de, .ref kl, .ref tl, .ref cu, .ref hk, .ref ca, .int 0, .int 0, .int (-1), .int 0, .int 0])), (s0, .inr (3, [.ref a0, .ref a1, .ref a2, .ref a3, .ref a4, .ref a5, .ref a6, .int 0, .ref a7, .ref a8, .ref a9, .ref a10, .ref a11, .int 0]))]) [0, 1] rfl
      have hD9 := hD.sub (ws' := [(h0, .inr (5, [.ref s0, .ref de, .ref kl, .ref tl, .ref cu, .ref hk, .ref ca, .int 0, .int 0, .int (-1), .int 0, .int 0])), (s0, .inr (3, [.ref a0, .ref a1, .ref a2, .ref a3, .ref a4, .ref a5, .ref a6, .int 0, .ref a7, .ref a8, .ref a9, .ref a10, .ref a11, .int 0]))]) [0, 1] (by decide) rfl
      refine W.widen (k := 1) (n := 6) (by decide) (by decide) ?_
      refine vx_ret ?_
      exact W.vret hx hb hr (fun t ht1 hW => ⟨⟨(xA [], xF []), rfl, ⟨c_2, c_9⟩, by rw [ht1]; exact hP9, hD9⟩, hS.F ht1⟩) hS.2.2 dX5_requireValue_43
set_option maxHeartbeats 4000000 in
set_option maxRecDepth 100000 in
theorem k5_make (l : Launch) (hl0 : l.stackTraces = false) (D : va_G) (C : Nat → ClassId) (b0 sz : Nat) (h0 : Nat) (s0 : Nat) (de : Nat) (kl : Nat) (tl : Nat) (cu : Nat) (hk : Nat) (ca : Nat) (kx : Nat) (ky : Nat) (tx : Nat) (ty : Nat) (a0 : Nat) (a1 : Nat) (a2 : Nat) (a3 : Nat) (a4 : Nat) (a5 : Nat) (a6 : Nat) (a7 : Nat) (a8 : Nat) (a9 : Nat) (a10 : Nat) (a11 : Nat) (f0 : Nat → Int32) (f1 : Nat → Int32) (f2 : Nat → Int32) (f3 : Nat → Int32) (p0 : Int32) : vx_Met l yX5_make (xw yX5_make cX5_make 2 (some .int)) ({ frames := 48, cells := 3, slots := 18, locals := 900 }) (xPc D C b0 [.ref h0, .int p0] [(h0, .inr (5, [.ref s0, .ref de, .ref kl, .ref tl, .ref cu, .ref hk, .ref ca, .int 0, .int 0, .int (-1), .int 0, .int 0])), (kl, .inr (2, [.ref kx, .ref ky, .int 0])), (tl, .inr (4, [.ref tx, .ref ty, .int 1])), (s0, .inr (3, [.ref a0, .ref a1, .ref a2, .ref a3, .ref a4, .ref a5, .ref a6, .int 0, .ref a7, .ref a8, .ref a9, .ref a10, .ref a11, .int 0])), (a0, .inl (C 0, 600, .inl f0)), (a1, .inl (C 0, 600, .inl f1)), (a2, .inl (C 1, 600, .inl f2)), (a3, .inl (C 0, 600, .inl f3))] sz) (va_Qi (fun (r : Int32) (u : xS) => p0 = -1 ∧ r = -2) (xBw D (va_A [(h0, .inr (5, [.ref s0, .ref de, .ref kl, .ref tl, .ref cu, .ref hk, .ref ca, .int 0, .int 0, .int (-1), .int 0, .int 0])), (kl, .inr (2, [.ref kx, .ref ky, .int 0])), (tl, .inr (4, [.ref tx, .ref ty, .int 1])), (s0, .inr (3, [.ref a0, .ref a1, .ref a2, .ref a3, .ref a4, .ref a5, .ref a6, .int 0, .ref a7, .ref a8, .ref a9, .ref a10, .ref a11, .int 0])), (a0, .inl (C 0, 600, .inl f0)), (a1, .inl (C 0, 600, .inl f1)), (a2, .inl (C 1, 600, .inl f2)), (a3, .inl (C 0, 600, .inl f3))] sz) (fun u => [])) (va_A [(h0, .inr (5, [.ref s0, .ref de, .ref kl, .ref tl, .ref cu, .ref hk, .ref ca, .int 0, .int 0, .int (-1), .int 0, .int 0])), (kl, .inr (2, [.ref kx, .ref ky, .int 0])), (tl, .inr (4, [.ref tx, .ref ty, .int 1])), (s0, .inr (3, [.ref a0, .ref a1, .ref a2, .ref a3, .ref a4, .ref a5, .ref a6, .int 0, .ref a7, .ref a8, .ref a9, .ref a10, .ref a11, .int 0])), (a0, .inl (C 0, 600, .inl f0)), (a1, .inl (C 0, 600, .inl f1)), (a2, .inl (C 1, 600, .inl f2)), (a3, .inl (C 0, 600, .inl f3))] sz)) (xX xIAE (¬ p0 = -1) (va_A [(h0, .inr (5, [.ref s0, .ref de, .ref kl, .ref tl, .ref cu, .ref hk, .ref ca, .int 0, .int 0, .int (-1), .int 0, .int 0])), (kl, .inr (2, [.ref kx, .ref ky, .int 0])), (tl, .inr (4, [.ref tx, .ref ty, .int 1])), (s0, .inr (3, [.ref a0, .ref a1, .ref a2, .ref a3, .ref a4, .ref a5, .ref a6, .int 0, .ref a7, .ref a8, .ref a9, .ref a10, .ref a11, .int 0])), (a0, .inl (C 0, 600, .inl f0)), (a1, .inl (C 0, 600, .inl f1)), (a2, .inl (C 1, 600, .inl f2)), (a3, .inl (C 0, 600, .inl f3))] sz)) 3 18 (va_A [(h0, .inr (5, [.ref s0, .ref de, .ref kl, .ref tl, .ref cu, .ref hk, .ref ca, .int 0, .int 0, .int (-1), .int 0, .int 0])), (kl, .inr (2, [.ref kx, .ref ky, .int 0])), (tl, .inr (4, [.ref tx, .ref ty, .int 1])), (s0, .inr (3, [.ref a0, .ref a1, .ref a2, .ref a3, .ref a4, .ref a5, .ref a6, .int 0, .ref a7, .ref a8, .ref a9, .ref a10, .ref a11, .int 0])), (a0, .inl (C 0, 600, .inl f0)), (a1, .inl (C 0, 600, .inl f1)), (a2, .inl (C 1, 600, .inl f2)), (a3, .inl (C 0, 600, .inl f3))] sz) := by
  refine vx_ofW (cc := cX5_make) (maxL := 2) (ret := (some .int)) (by decide) rfl ?_
  intro p e s m args below meth c s₁ B hml htab hv
  obtain ⟨rfl, hsz, hP, hK, hD0, hE⟩ := hv
  have hx := B.exec
  have hb := B.bytes
  have hr := B.returns
  have ht : ∀ w ∈ xb, w.before _ s = true := fun w h => atoms_spec (ws := xw yX5_make cX5_make 2 (some .int)) B.pre w (List.mem_cons_of_mem _ h)
  have hown : s.vm.findClass RX5 = some m.cls := findClass_of_methodNamed B.named
  have hlocks := B.notSynchronized
  subst hsz
  have hAb := x_Ab hD0 hE.1
  have hD := hD0.self (sz := s.heap.size)
  generalize hAe : va_A [(h0, .inr (5, [.ref s0, .ref de, .ref kl, .ref tl, .ref cu, .ref hk, .ref ca, .int 0, .int 0, .int (-1), .int 0, .int 0])), (kl, .inr (2, [.ref kx, .ref ky, .int 0])), (tl, .inr (4, [.ref tx, .ref ty, .int 1])), (s0, .inr (3, [.ref a0, .ref a1, .ref a2, .ref a3, .ref a4, .ref a5, .ref a6, .int 0, .ref a7, .ref a8, .ref a9, .ref a10, .ref a11, .int 0])), (a0, .inl (C 0, 600, .inl f0)), (a1, .inl (C 0, 600, .inl f1)), (a2, .inl (C 1, 600, .inl f2)), (a3, .inl (C 0, 600, .inl f3))] s.heap.size = A at hD hAb ⊢
  have hA : ∀ q : Nat, s.heap.size ≤ q → A q := fun q h => by rw [← hAe]; exact Or.inr h
  have hS : va_S A s.heap s.heap [] := va_S.rf
  have hP : va_P D vwCl [(h0, .inr (5, [.ref s0, .ref de, .ref kl, .ref tl, .ref cu, .ref hk, .ref ca, .int 0, .int 0, .int (-1), .int 0, .int 0])), (kl, .inr (2, [.ref kx, .ref ky, .int 0])), (tl, .inr (4, [.ref tx, .ref ty, .int 1])), (s0, .inr (3, [.ref a0, .ref a1, .ref a2, .ref a3, .ref a4, .ref a5, .ref a6, .int 0, .ref a7, .ref a8, .ref a9, .ref a10, .ref a11, .int 0])), (a0, .inl (C 0, 600, .inl f0)), (a1, .inl (C 0, 600, .inl f1)), (a2, .inl (C 1, 600, .inl f2)), (a3, .inl (C 0, 600, .inl f3))] s.heap := hP
  have hl := lv_entry ([.ref h0, .int p0]) (n := 2) (Nat.le_of_ble_eq_true rfl)
  rw [lg_entry_eq]
  generalize (lg_sl ([.ref h0, .int p0]) ++ List.replicate (2 - (lg_sl ([.ref h0, .int p0])).length) Slot.unset).toArray = ls at hl ⊢
  have hl : lv_has ls 2 [(0, .ref h0), (1, .int p0)] := hl
  refine lv_aload_n hx hb dX5_make_0 rfl (lv_at hl 0 rfl) ?_
  have hPc := hP.sub (ws' := [(h0, .inr (5, [.ref s0, .ref de, .ref kl, .ref tl, .ref cu, .ref hk, .ref ca, .int 0, .int 0, .int (-1), .int 0, .int 0])), (kl, .inr (2, [.ref kx, .ref ky, .int 0])), (tl, .inr (4, [.ref tx, .ref ty, .int 1]))]) [0, 1, 2] rfl
  have hDc := hD.sub (ws' := [(h0, .inr (5, [.ref s0, .ref de, .ref kl, .ref tl, .ref cu, .ref hk, .ref ca, .int 0, .int 0, .int (-1), .int 0, .int 0])), (kl, .inr (2, [.ref kx, .ref ky, .int 0])), (tl, .inr (4, [.ref tx, .ref ty, .int 1]))]) [0, 1, 2] (by decide) rfl
  have hFc := va_free (wc := [(h0, .inr (5, [.ref s0, .ref de, .ref kl, .ref tl, .ref cu, .ref hk, .ref ca, .int 0, .int 0, .int (-1), .int 0, .int 0])), (kl, .inr (2, [.ref kx, .ref ky, .int 0])), (tl, .inr (4, [.ref tx, .ref ty, .int 1]))]) hD hS hA [0, 1, 2] rfl
  refine va_callv (va_runV (As := []) (rest := []) ⟨hx, hb, hml, hown, ht⟩ (k5_begin l D C b0 s.heap.size h0 s0 de kl tl cu hk ca kx ky tx ty) (cwV 0 ht (xg_V m_281 m_282 m_283 m_240 m_162) rfl rfl rfl (by decide +kernel) ⟨Nat.le_of_ble_eq_true rfl, Nat.le_of_ble_eq_true rfl⟩) ⟨xPc_bl, va_recv hK hPc (ci := 5) (q0 := 0) rfl rfl, xPc_at hPc hK hDc hE hS hAb⟩ rfl rfl hl.1 rfl (lv_room (Nat.le_of_ble_eq_true rfl)) dX5_make_1 ⟨(by decide), (by decide)⟩) hS (fun q _ h => hFc q h) hFc (fun u_1 t H1 locs ht1 hvm hw hB hz1 hk1 hS => ?_)
  obtain ⟨hP1, hD1⟩ := hB
  rw [ht1] at hP1
  try dsimp only at hw
  obtain ⟨hP, hD⟩ := va_join (wr := [(s0, .inr (3, [.ref a0, .ref a1, .ref a2, .ref a3, .ref a4, .ref a5, .ref a6, .int 0, .ref a7, .ref a8, .ref a9, .ref a10, .ref a11, .int 0])), (a0, .inl (C 0, 600, .inl f0)), (a1, .inl (C 0, 600, .inl f1)), (a2, .inl (C 1, 600, .inl f2)), (a3, .inl (C 0, 600, .inl f3))]) (w1 := [(h0, .inr (5, [.ref s0, .ref de, .ref kl, .ref tl, .ref cu, .ref hk, .ref ca, .int 0, .int 0, .int (-1), .int 0, .int 0])), (kl, .inr (2, [.ref kx, .ref ky, .int 0])), (tl, .inr (4, [.ref tx, .ref ty, .int 2]))]) hP hD [0, 1, 2] [3, 4, 5, 6, 7] rfl rfl (by decide) (by decide) hk1 hFc hP1 hD1
  generalize H1 = H at hP hS ⊢
  have hP : va_P D vwCl [(s0, .inr (3, [.ref a0, .ref a1, .ref a2, .ref a3, .ref a4, .ref a5, .ref a6, .int 0, .ref a7, .ref a8, .ref a9, .ref a10, .ref a11, .int 0])), (a0, .inl (C 0, 600, .inl f0)), (a1, .inl (C 0, 600, .inl f1)), (a2, .inl (C 1, 600, .inl f2)), (a3, .inl (C 0, 600, .inl f3)), (h0, .inr (5, [.ref s0, .ref de, .ref kl, .ref tl, .ref cu, .ref hk, .ref ca, .int 0, .int 0, .int (-1), .int 0, .int 0])), (kl, .inr (2, [.ref kx, .ref ky, .int 0])), (tl, .inr (4, [.ref tx, .ref ty, .int 2]))] H := hP
  have hD : va_D A [(s0, .inr (3, [.ref a0, .ref a1, .ref a2, .ref a3, .ref a4, .ref a5, .ref a6, .int 0, .ref a7, .ref a8, .ref a9, .ref a10, .ref a11, .int 0])), (a0, .inl (C 0, 600, .inl f0)), (a1, .inl (C 0, 600, .inl f1)), (a2, .inl (C 1, 600, .inl f2)), (a3, .inl (C 0, 600, .inl f3)), (h0, .inr (5, [.ref s0, .ref de, .ref kl, .ref tl, .ref cu, .ref hk, .ref ca, .int 0, .int 0, .int (-1), .int 0, .int 0])), (kl, .inr (2, [.ref kx, .ref ky, .int 0])), (tl, .inr (4, [.ref tx, .ref ty, .int 2]))] := hD
  have hq_1 := hw
  refine lv_aload_n hx hb dX5_make_4 rfl (lv_at hl 0 rfl) ?_
  refine lv_iload_n hx hb dX5_make_5 rfl (lv_at hl 1 rfl) ?_
  have hPc := hP.sub (ws' := [(h0, .inr (5, [.ref s0, .ref de, .ref kl, .ref tl, .ref cu, .ref hk, .ref ca, .int 0, .int 0, .int (-1), .int 0, .int 0])), (s0, .inr (3, [.ref a0, .ref a1, .ref a2, .ref a3, .ref a4, .ref a5, .ref a6, .int 0, .ref a7, .ref a8, .ref a9, .ref a10, .ref a11, .int 0]))]) [5, 0] rfl
  have hDc := hD.sub (ws' := [(h0, .inr (5, [.ref s0, .ref de, .ref kl, .ref tl, .ref cu, .ref hk, .ref ca, .int 0, .int 0, .int (-1), .int 0, .int 0])), (s0, .inr (3, [.ref a0, .ref a1, .ref a2, .ref a3, .ref a4, .ref a5, .ref a6, .int 0, .ref a7, .ref a8, .ref a9, .ref a10, .ref a11, .int 0]))]) [5, 0] (by decide) rfl
  have hFc := va_free (wc := [(h0, .inr (5, [.ref s0, .ref de, .ref kl, .ref tl, .ref cu, .ref hk, .ref ca, .int 0, .int 0, .int (-1), .int 0, .int 0])), (s0, .inr (3, [.ref a0, .ref a1, .ref a2, .ref a3, .ref a4, .ref a5, .ref a6, .int 0, .ref a7, .ref a8, .ref a9, .ref a10, .ref a11, .int 0]))]) hD hS hA [5, 0] rfl
  refine vx_callv (vx_runV (As := [.int p0]) (rest := []) ⟨hx, hb, hml, hown, ht⟩ (k5_requirePrototype l hl0 D C b0 H.size h0 s0 de kl tl cu hk ca a0 a1 a2 a3 a4 a5 a6 a7 a8 a9 a10 a11 p0) (cwV 1 ht (xg_V m_284 m_285 m_286 m_240 m_164) rfl rfl rfl (by decide +kernel) ⟨Nat.le_of_ble_eq_true rfl, Nat.le_of_ble_eq_true rfl⟩) ⟨xPc_bl, va_recv hK hPc (ci := 5) (q0 := 0) rfl rfl, xPc_at hPc hK hDc hE hS hAb⟩ rfl rfl hl.1 rfl (lv_room (Nat.le_of_ble_eq_true rfl)) dX5_make_6 ⟨(by decide), (by decide)⟩) hS (fun q _ h => hFc q h) hFc (fun q _ h => hFc q h) (fun E ce q9 u9 t9 H9 locs9 e9 v9 p9 b9 z9 k9 hS9 hc9 hn9 hf9 => ?_) (fun u_2 t H1 locs ht1 hvm hw hB hz1 hk1 hS => ?_)
  · skip
    obtain rfl := b9
    exact vx_out (mc := 3) (ms := 18) (fun x hx => (htab x hx).elim) hlocks hc9 hn9 hf9 (fun t ht1 hW1 => ⟨(), by first | exact p9 | trivial | assumption | (simp_all; done), rfl, hS9.F ht1⟩) hS9.2.2 (by decide) (by decide)
  · skip
    obtain ⟨hP1, hD1⟩ := hB
    rw [ht1] at hP1
    try dsimp only at hw
    obtain ⟨hP, hD⟩ := va_join (wr := [(a0, .inl (C 0, 600, .inl f0)), (a1, .inl (C 0, 600, .inl f1)), (a2, .inl (C 1, 600, .inl f2)), (a3, .inl (C 0, 600, .inl f3)), (kl, .inr (2, [.ref kx, .ref ky, .int 0])), (tl, .inr (4, [.ref tx, .ref ty, .int 2]))]) (w1 := [(h0, .inr (5, [.ref s0, .ref de, .ref kl, .ref tl, .ref cu, .ref hk, .ref ca, .int 0, .int 0, .int (-1), .int 0, .int 0])), (s0, .inr (3, [.ref a0, .ref a1, .ref a2, .ref a3, .ref a4, .ref a5, .ref a6, .int 0, .ref a7, .ref a8, .ref a9, .ref a10, .ref a11, .int 0]))]) hP hD [5, 0] [1, 2, 3, 4, 6, 7] rfl rfl (by decide) (by decide) hk1 hFc hP1 hD1
    generalize H1 = H at hP hS ⊢
    have hP : va_P D vwCl [(a0, .inl (C 0, 600, .inl f0)), (a1, .inl (C 0, 600, .inl f1)), (a2, .inl (C 1, 600, .inl f2)), (a3, .inl (C 0, 600, .inl f3)), (kl, .inr (2, [.ref kx, .ref ky, .int 0])), (tl, .inr (4, [.ref tx, .ref ty, .int 2])), (h0, .inr (5, [.ref s0, .ref de, .ref kl, .ref tl, .ref cu, .ref hk, .ref ca, .int 0, .int 0, .int (-1), .int 0, .int 0])), (s0, .inr (3, [.ref a0, .ref a1, .ref a2, .ref a3, .ref a4, .ref a5, .ref a6, .int 0, .ref a7, .ref a8, .ref a9, .ref a10, .ref a11, .int 0]))] H := hP
    have hD : va_D A [(a0, .inl (C 0, 600, .inl f0)), (a1, .inl (C 0, 600, .inl f1)), (a2, .inl (C 1, 600, .inl f2)), (a3, .inl (C 0, 600, .inl f3)), (kl, .inr (2, [.ref kx, .ref ky, .int 0])), (tl, .inr (4, [.ref tx, .ref ty, .int 2])), (h0, .inr (5, [.ref s0, .ref de, .ref kl, .ref tl, .ref cu, .ref hk, .ref ca, .int 0, .int 0, .int (-1), .int 0, .int 0])), (s0, .inr (3, [.ref a0, .ref a1, .ref a2, .ref a3, .ref a4, .ref a5, .ref a6, .int 0, .ref a7, .ref a8, .ref a9, .ref a10, .ref a11, .int 0]))] := hD
    have hq_6 := hw
    refine W.widen (k := 1) (n := 6) (by decide) (by decide) ?_
    refine lv_aload_n hx hb dX5_make_9 rfl (lv_at hl 0 rfl) ?_
    refine va_get (D := D) (ci := 5) (v := .ref s0) (C := RX5) (T := TX5) (N := 12) hx hb ht inX5 hown hK hP 6 rfl rfl 0 (by decide) (ht _ m_233) (fun _ h9 => h9) rfl dX5_make_10 ?_
    refine lv_iload_n hx hb dX5_make_13 rfl (lv_at hl 1 rfl) ?_
    have hPc := hP.sub (ws' := [(s0, .inr (3, [.ref a0, .ref a1, .ref a2, .ref a3, .ref a4, .ref a5, .ref a6, .int 0, .ref a7, .ref a8, .ref a9, .ref a10, .ref a11, .int 0])), (a0, .inl (C 0, 600, .inl f0)), (a1, .inl (C 0, 600, .inl f1)), (a2, .inl (C 1, 600, .inl f2)), (a3, .inl (C 0, 600, .inl f3))]) [7, 0, 1, 2, 3] rfl
    have hDc := hD.sub (ws' := [(s0, .inr (3, [.ref a0, .ref a1, .ref a2, .ref a3, .ref a4, .ref a5, .ref a6, .int 0, .ref a7, .ref a8, .ref a9, .ref a10, .ref a11, .int 0])), (a0, .inl (C 0, 600, .inl f0)), (a1, .inl (C 0, 600, .inl f1)), (a2, .inl (C 1, 600, .inl f2)), (a3, .inl (C 0, 600, .inl f3))]) [7, 0, 1, 2, 3] (by decide) rfl
    have hFc := va_free (wc := [(s0, .inr (3, [.ref a0, .ref a1, .ref a2, .ref a3, .ref a4, .ref a5, .ref a6, .int 0, .ref a7, .ref a8, .ref a9, .ref a10, .ref a11, .int 0])), (a0, .inl (C 0, 600, .inl f0)), (a1, .inl (C 0, 600, .inl f1)), (a2, .inl (C 1, 600, .inl f2)), (a3, .inl (C 0, 600, .inl f3))]) hD hS hA [7, 0, 1, 2, 3] rfl
    refine va_calli (va_runV (As := [.int p0]) (rest := []) ⟨hx, hb, hml, hown, ht⟩ (k3_addOrdinary l D C b0 H.size s0 a0 a1 a2 a3 a4 a5 a6 a7 a8 a9 a10 a11 f0 f1 f2 f3 p0) (cwV 1 ht (xg_V m_287 m_288 m_289 m_217 m_168) rfl rfl rfl (by decide +kernel) ⟨Nat.le_of_ble_eq_true rfl, Nat.le_of_ble_eq_true rfl⟩) ⟨xPc_bl, va_recv hK hPc (ci := 3) (q0 := 0) rfl rfl, xPc_at hPc hK hDc hE hS hAb⟩ rfl rfl hl.1 rfl (lv_room (Nat.le_of_ble_eq_true rfl)) dX5_make_14 ⟨(by decide), (by decide)⟩) hS (fun q _ h => hFc q h) hFc (fun r_3 u_4 t H1 locs ht1 hvm hw hB hz1 hk1 hS => ?_)
    obtain ⟨hP1, hD1⟩ := hB
    rw [ht1] at hP1
    try dsimp only at hw
    obtain ⟨hP, hD⟩ := va_join (wr := [(kl, .inr (2, [.ref kx, .ref ky, .int 0])), (tl, .inr (4, [.ref tx, .ref ty, .int 2])), (h0, .inr (5, [.ref s0, .ref de, .ref kl, .ref tl, .ref cu, .ref hk, .ref ca, .int 0, .int 0, .int (-1), .int 0, .int 0]))]) (w1 := []) hP hD [7, 0, 1, 2, 3] [4, 5, 6] rfl rfl (by decide) (by decide) hk1 hFc hP1 hD1
    generalize H1 = H at hP hS ⊢
    have hP : va_P D vwCl [(kl, .inr (2, [.ref kx, .ref ky, .int 0])), (tl, .inr (4, [.ref tx, .ref ty, .int 2])), (h0, .inr (5, [.ref s0, .ref de, .ref kl, .ref tl, .ref cu, .ref hk, .ref ca, .int 0, .int 0, .int (-1), .int 0, .int 0]))] H := hP
    have hD : va_D A [(kl, .inr (2, [.ref kx, .ref ky, .int 0])), (tl, .inr (4, [.ref tx, .ref ty, .int 2])), (h0, .inr (5, [.ref s0, .ref de, .ref kl, .ref tl, .ref cu, .ref hk, .ref ca, .int 0, .int 0, .int (-1), .int 0, .int 0]))] := hD
    have hq_14 := hw
    obtain rfl : r_3 = (-2 : Int32) := hw
    have hP9 := hP.sub (ws' := []) [] rfl
    have hD9 := hD.sub (ws' := []) [] (by decide) rfl
    refine W.widen (k := 3) (n := 18) (by decide) (by decide) ?_
    refine vx_ret ?_
    exact W.iret (v := (-2)) hx hb hr (fun t ht1 hW => ⟨⟨(-2), (xA [], xF []), rfl, ⟨hq_6, rfl⟩, by rw [ht1]; exact hP9, hD9⟩, hS.F ht1⟩) hS.2.2 dX5_make_17
set_option maxHeartbeats 4000000 in
set_option maxRecDepth 100000 in
theorem k5_array (l : Launch) (hl0 : l.stackTraces = false) (D : va_G) (C : Nat → ClassId) (b0 sz : Nat) (h0 : Nat) (s0 : Nat) (de : Nat) (kl : Nat) (tl : Nat) (cu : Nat) (hk : Nat) (ca : Nat) (kx : Nat) (ky : Nat) (tx : Nat) (ty : Nat) (a0 : Nat) (a1 : Nat) (a2 : Nat) (a3 : Nat) (a4 : Nat) (a5 : Nat) (a6 : Nat) (a7 : Nat) (a8 : Nat) (a9 : Nat) (a10 : Nat) (a11 : Nat) (f0 : Nat → Int32) (f1 : Nat → Int32) (f2 : Nat → Int32) (f3 : Nat → Int32) (f7 : Nat → Int32) (f8 : Nat → Int32) (f9 : Nat → Int32) (f10 : Nat → Int32) (f11 : Nat → Int32) (p0 : Int32) : vx_Met l yX5_array (xw yX5_array cX5_array 2 (some .int)) ({ frames := 48, cells := 3, slots := 18, locals := 900 }) (xPc D C b0 [.ref h0, .int p0] [(h0, .inr (5, [.ref s0, .ref de, .ref kl, .ref tl, .ref cu, .ref hk, .ref ca, .int 0, .int 0, .int (-1), .int 0, .int 0])), (kl, .inr (2, [.ref kx, .ref ky, .int 0])), (tl, .inr (4, [.ref tx, .ref ty, .int 1])), (s0, .inr (3, [.ref a0, .ref a1, .ref a2, .ref a3, .ref a4, .ref a5, .ref a6, .int 0, .ref a7, .ref a8, .ref a9, .ref a10, .ref a11, .int 0])), (a0, .inl (C 0, 600, .inl f0)), (a1, .inl (C 0, 600, .inl f1)), (a2, .inl (C 1, 600, .inl f2)), (a3, .inl (C 0, 600, .inl f3)), (a7, .inl (C 0, 5999, .inl f7)), (a8, .inl (C 0, 5999, .inl f8)), (a9, .inl (C 0, 5999, .inl f9)), (a10, .inl (C 0, 5999, .inl f10)), (a11, .inl (C 0, 5999, .inl f11))] sz) (va_Qi (fun (r : Int32) (u : xS) => (¬ p0 < 0 ∧ p0 ≤ 100) ∧ r = -2) (xBw D (va_A [(h0, .inr (5, [.ref s0, .ref de, .ref kl, .ref tl, .ref cu, .ref hk, .ref ca, .int 0, .int 0, .int (-1), .int 0, .int 0])), (kl, .inr (2, [.ref kx, .ref ky, .int 0])), (tl, .inr (4, [.ref tx, .ref ty, .int 1])), (s0, .inr (3, [.ref a0, .ref a1, .ref a2, .ref a3, .ref a4, .ref a5, .ref a6, .int 0, .ref a7, .ref a8, .ref a9, .ref a10, .ref a11, .int 0])), (a0, .inl (C 0, 600, .inl f0)), (a1, .inl (C 0, 600, .inl f1)), (a2, .inl (C 1, 600, .inl f2)), (a3, .inl (C 0, 600, .inl f3)), (a7, .inl (C 0, 5999, .inl f7)), (a8, .inl (C 0, 5999, .inl f8)), (a9, .inl (C 0, 5999, .inl f9)), (a10, .inl (C 0, 5999, .inl f10)), (a11, .inl (C 0, 5999, .inl f11))] sz) (fun u => [])) (va_A [(h0, .inr (5, [.ref s0, .ref de, .ref kl, .ref tl, .ref cu, .ref hk, .ref ca, .int 0, .int 0, .int (-1), .int 0, .int 0])), (kl, .inr (2, [.ref kx, .ref ky, .int 0])), (tl, .inr (4, [.ref tx, .ref ty, .int 1])), (s0, .inr (3, [.ref a0, .ref a1, .ref a2, .ref a3, .ref a4, .ref a5, .ref a6, .int 0, .ref a7, .ref a8, .ref a9, .ref a10, .ref a11, .int 0])), (a0, .inl (C 0, 600, .inl f0)), (a1, .inl (C 0, 600, .inl f1)), (a2, .inl (C 1, 600, .inl f2)), (a3, .inl (C 0, 600, .inl f3)), (a7, .inl (C 0, 5999, .inl f7)), (a8, .inl (C 0, 5999, .inl f8)), (a9, .inl (C 0, 5999, .inl f9)), (a10, .inl (C 0, 5999, .inl f10)), (a11, .inl (C 0, 5999, .inl f11))] sz)) (xX xIAE (¬ (¬ p0 < 0 ∧ p0 ≤ 100)) (va_A [(h0, .inr (5, [.ref s0, .ref de, .ref kl, .ref tl, .ref cu, .ref hk, .ref ca, .int 0, .int 0, .int (-1), .int 0, .int 0])), (kl, .inr (2, [.ref kx, .ref ky, .int 0])), (tl, .inr (4, [.ref tx, .ref ty, .int 1])), (s0, .inr (3, [.ref a0, .ref a1, .ref a2, .ref a3, .ref a4, .ref a5, .ref a6, .int 0, .ref a7, .ref a8, .ref a9, .ref a10, .ref a11, .int 0])), (a0, .inl (C 0, 600, .inl f0)), (a1, .inl (C 0, 600, .inl f1)), (a2, .inl (C 1, 600, .inl f2)), (a3, .inl (C 0, 600, .inl f3)), (a7, .inl (C 0, 5999, .inl f7)), (a8, .inl (C 0, 5999, .inl f8)), (a9, .inl (C 0, 5999, .inl f9)), (a10, .inl (C 0, 5999, .inl f10)), (a11, .inl (C 0, 5999, .inl f11))] sz)) 3 18 (va_A [(h0, .inr (5, [.ref s0, .ref de, .ref kl, .ref tl, .ref cu, .ref hk, .ref ca, .int 0, .int 0, .int (-1), .int 0, .int 0])), (kl, .inr (2, [.ref kx, .ref ky, .int 0])), (tl, .inr (4, [.ref tx, .ref ty, .int 1])), (s0, .inr (3, [.ref a0, .ref a1, .ref a2, .ref a3, .ref a4, .ref a5, .ref a6, .int 0, .ref a7, .ref a8, .ref a9, .ref a10, .ref a11, .int 0])), (a0, .inl (C 0, 600, .inl f0)), (a1, .inl (C 0, 600, .inl f1)), (a2, .inl (C 1, 600, .inl f2)), (a3, .inl (C 0, 600, .inl f3)), (a7, .inl (C 0, 5999, .inl f7)), (a8, .inl (C 0, 5999, .inl f8)), (a9, .inl (C 0, 5999, .inl f9)), (a10, .inl (C 0, 5999, .inl f10)), (a11, .inl (C 0, 5999, .inl f11))] sz) := by
  refine vx_ofW (cc := cX5_array) (maxL := 2) (ret := (some .int)) (by decide) rfl ?_
  intro p e s m args below meth c s₁ B hml htab hv
  obtain ⟨rfl, hsz, hP, hK, hD0, hE⟩ := hv
  have hx := B.exec
  have hb := B.bytes
  have hr := B.returns
  have ht : ∀ w ∈ xb, w.before _ s = true := fun w h => atoms_spec (ws := xw yX5_array cX5_array 2 (some .int)) B.pre w (List.mem_cons_of_mem _ h)
  have hown : s.vm.findClass RX5 = some m.cls := findClass_of_methodNamed B.named
  have hlocks := B.notSynchronized
  subst hsz
  have hAb := x_Ab hD0 hE.1
  have hD := hD0.self (sz := s.heap.size)
  generalize hAe : va_A [(h0, .inr (5, [.ref s0, .ref de, .ref kl, .ref tl, .ref cu, .ref hk, .ref ca, .int 0, .int 0, .int (-1), .int 0, .int 0])), (kl, .inr (2, [.ref kx, .ref ky, .int 0])), (tl, .inr (4, [.ref tx, .ref ty, .int 1])), (s0, .inr (3, [.ref a0, .ref a1, .ref a2, .ref a3, .ref a4, .ref a5, .ref a6, .int 0, .ref a7, .ref a8, .ref a9, .ref a10, .ref a11, .int 0])), (a0, .inl (C 0, 600, .inl f0)), (a1, .inl (C 0, 600, .inl f1)), (a2, .inl (C 1, 600, .inl f2)), (a3, .inl (C 0, 600, .inl f3)), (a7, .inl (C 0, 5999, .inl f7)), (a8, .inl (C 0, 5999, .inl f8)), (a9, .inl (C 0, 5999, .inl f9)), (a10, .inl (C 0, 5999, .inl f10)), (a11, .inl (C 0, 5999, .inl f11))] s.heap.size = A at hD hAb ⊢
  have hA : ∀ q : Nat, s.heap.size ≤ q → A q := fun q h => by rw [← hAe]; exact Or.inr h
  have hS : va_S A s.heap s.heap [] := va_S.rf
  have hP : va_P D vwCl [(h0, .inr (5, [.ref s0, .ref de, .ref kl, .ref tl, .ref cu, .ref hk, .ref ca, .int 0, .int 0, .int (-1), .int 0, .int 0])), (kl, .inr (2, [.ref kx, .ref ky, .int 0])), (tl, .inr (4, [.ref tx, .ref ty, .int 1])), (s0, .inr (3, [.ref a0, .ref a1, .ref a2, .ref a3, .ref a4, .ref a5, .ref a6, .int 0, .ref a7, .ref a8, .ref a9, .ref a10, .ref a11, .int 0])), (a0, .inl (C 0, 600, .inl f0)), (a1, .inl (C 0, 600, .inl f1)), (a2, .inl (C 1, 600, .inl f2)), (a3, .inl (C 0, 600, .inl f3)), (a7, .inl (C 0, 5999, .inl f7)), (a8, .inl (C 0, 5999, .inl f8)), (a9, .inl (C 0, 5999, .inl f9)), (a10, .inl (C 0, 5999, .inl f10)), (a11, .inl (C 0, 5999, .inl f11))] s.heap := hP
  have hl := lv_entry ([.ref h0, .int p0]) (n := 2) (Nat.le_of_ble_eq_true rfl)
  rw [lg_entry_eq]
  generalize (lg_sl ([.ref h0, .int p0]) ++ List.replicate (2 - (lg_sl ([.ref h0, .int p0])).length) Slot.unset).toArray = ls at hl ⊢
  have hl : lv_has ls 2 [(0, .ref h0), (1, .int p0)] := hl
  refine lv_aload_n hx hb dX5_array_0 rfl (lv_at hl 0 rfl) ?_
  have hPc := hP.sub (ws' := [(h0, .inr (5, [.ref s0, .ref de, .ref kl, .ref tl, .ref cu, .ref hk, .ref ca, .int 0, .int 0, .int (-1), .int 0, .int 0])), (kl, .inr (2, [.ref kx, .ref ky, .int 0])), (tl, .inr (4, [.ref tx, .ref ty, .int 1]))]) [0, 1, 2] rfl
  have hDc := hD.sub (ws' := [(h0, .inr (5, [.ref s0, .ref de, .ref kl, .ref tl, .ref cu, .ref hk, .ref ca, .int 0, .int 0, .int (-1), .int 0, .int 0])), (kl, .inr (2, [.ref kx, .ref ky, .int 0])), (tl, .inr (4, [.ref tx, .ref ty, .int 1]))]) [0, 1, 2] (by decide) rfl
  have hFc := va_free (wc := [(h0, .inr (5, [.ref s0, .ref de, .ref kl, .ref tl, .ref cu, .ref hk, .ref ca, .int 0, .int 0, .int (-1), .int 0, .int 0])), (kl, .inr (2, [.ref kx, .ref ky, .int 0])), (tl, .inr (4, [.ref tx, .ref ty, .int 1]))]) hD hS hA [0, 1, 2] rfl
  refine va_callv (va_runV (As := []) (rest := []) ⟨hx, hb, hml, hown, ht⟩ (k5_begin l D C b0 s.heap.size h0 s0 de kl tl cu hk ca kx ky tx ty) (cwV 0 ht (xg_V m_281 m_282 m_283 m_240 m_162) rfl rfl rfl (by decide +kernel) ⟨Nat.le_of_ble_eq_true rfl, Nat.le_of_ble_eq_true rfl⟩) ⟨xPc_bl, va_recv hK hPc (ci := 5) (q0 := 0) rfl rfl, xPc_at hPc hK hDc hE hS hAb⟩ rfl rfl hl.1 rfl (lv_room (Nat.le_of_ble_eq_true rfl)) dX5_array_1 ⟨(by decide), (by decide)⟩) hS (fun q _ h => hFc q h) hFc (fun u_1 t H1 locs ht1 hvm hw hB hz1 hk1 hS => ?_)
  obtain ⟨hP1, hD1⟩ := hB
  rw [ht1] at hP1
  try dsimp only at hw
  obtain ⟨hP, hD⟩ := va_join (wr := [(s0, .inr (3, [.ref a0, .ref a1, .ref a2, .ref a3, .ref a4, .ref a5, .ref a6, .int 0, .ref a7, .ref a8, .ref a9, .ref a10, .ref a11, .int 0])), (a0, .inl (C 0, 600, .inl f0)), (a1, .inl (C 0, 600, .inl f1)), (a2, .inl (C 1, 600, .inl f2)), (a3, .inl (C 0, 600, .inl f3)), (a7, .inl (C 0, 5999, .inl f7)), (a8, .inl (C 0, 5999, .inl f8)), (a9, .inl (C 0, 5999, .inl f9)), (a10, .inl (C 0, 5999, .inl f10)), (a11, .inl (C 0, 5999, .inl f11))]) (w1 := [(h0, .inr (5, [.ref s0, .ref de, .ref kl, .ref tl, .ref cu, .ref hk, .ref ca, .int 0, .int 0, .int (-1), .int 0, .int 0])), (kl, .inr (2, [.ref kx, .ref ky, .int 0])), (tl, .inr (4, [.ref tx, .ref ty, .int 2]))]) hP hD [0, 1, 2] [3, 4, 5, 6, 7, 8, 9, 10, 11, 12] rfl rfl (by decide) (by decide) hk1 hFc hP1 hD1
  generalize H1 = H at hP hS ⊢
  have hP : va_P D vwCl [(s0, .inr (3, [.ref a0, .ref a1, .ref a2, .ref a3, .ref a4, .ref a5, .ref a6, .int 0, .ref a7, .ref a8, .ref a9, .ref a10, .ref a11, .int 0])), (a0, .inl (C 0, 600, .inl f0)), (a1, .inl (C 0, 600, .inl f1)), (a2, .inl (C 1, 600, .inl f2)), (a3, .inl (C 0, 600, .inl f3)), (a7, .inl (C 0, 5999, .inl f7)), (a8, .inl (C 0, 5999, .inl f8)), (a9, .inl (C 0, 5999, .inl f9)), (a10, .inl (C 0, 5999, .inl f10)), (a11, .inl (C 0, 5999, .inl f11)), (h0, .inr (5, [.ref s0, .ref de, .ref kl, .ref tl, .ref cu, .ref hk, .ref ca, .int 0, .int 0, .int (-1), .int 0, .int 0])), (kl, .inr (2, [.ref kx, .ref ky, .int 0])), (tl, .inr (4, [.ref tx, .ref ty, .int 2]))] H := hP
  have hD : va_D A [(s0, .inr (3, [.ref a0, .ref a1, .ref a2, .ref a3, .ref a4, .ref a5, .ref a6, .int 0, .ref a7, .ref a8, .ref a9, .ref a10, .ref a11, .int 0])), (a0, .inl (C 0, 600, .inl f0)), (a1, .inl (C 0, 600, .inl f1)), (a2, .inl (C 1, 600, .inl f2)), (a3, .inl (C 0, 600, .inl f3)), (a7, .inl (C 0, 5999, .inl f7)), (a8, .inl (C 0, 5999, .inl f8)), (a9, .inl (C 0, 5999, .inl f9)), (a10, .inl (C 0, 5999, .inl f10)), (a11, .inl (C 0, 5999, .inl f11)), (h0, .inr (5, [.ref s0, .ref de, .ref kl, .ref tl, .ref cu, .ref hk, .ref ca, .int 0, .int 0, .int (-1), .int 0, .int 0])), (kl, .inr (2, [.ref kx, .ref ky, .int 0])), (tl, .inr (4, [.ref tx, .ref ty, .int 2]))] := hD
  have hq_1 := hw
  refine lv_iload_n hx hb dX5_array_4 rfl (lv_at hl 1 rfl) ?_
  refine lv_if_lt (tgt := 14) hx hb dX5_array_5 (by decide) (fun c_5 => ?_) (fun c_5 => ?_)
  · skip
    exact x_thrI (text := "a length is 0 to 100") (mc := 3) (ms := 18) hx hb hl0 hown ht hE hAb (by decide +kernel) hS (by rw [hml]; exact hl.1) dX5_array_14 dX5_array_17 dX5_array_18 dX5_array_20 dX5_array_23 htab (Nat.le_of_ble_eq_true rfl) (Nat.le_of_ble_eq_true rfl) (by decide) (by decide) hlocks (fun t hv1 hz1 hq1 => ⟨(), by first | exact fun h => h.1 c_5 | exact fun h => c_11 h.2, rfl, x_F hS hz1 hq1⟩) hS.2.2 (by decide) (by decide)
  · skip
    refine lv_iload_n hx hb dX5_array_8 rfl (lv_at hl 1 rfl) ?_
    refine lv_bipush (v := 100) hx hb dX5_array_9 (by decide) ?_
    refine lv_icmp_le (tgt := 24) hx hb dX5_array_11 (by decide) (fun c_11 => ?_) (fun c_11 => ?_)
    · skip
      refine lv_aload_n hx hb dX5_array_24 rfl (lv_at hl 0 rfl) ?_
      refine va_get (D := D) (ci := 5) (v := .ref s0) (C := RX5) (T := TX5) (N := 12) hx hb ht inX5 hown hK hP 10 rfl rfl 0 (by decide) (ht _ m_233) (fun _ h9 => h9) rfl dX5_array_25 ?_
      refine lv_iload_n hx hb dX5_array_28 rfl (lv_at hl 1 rfl) ?_
      have hPc := hP.sub (ws' := [(s0, .inr (3, [.ref a0, .ref a1, .ref a2, .ref a3, .ref a4, .ref a5, .ref a6, .int 0, .ref a7, .ref a8, .ref a9, .ref a10, .ref a11, .int 0])), (a0, .inl (C 0, 600, .inl f0)), (a1, .inl (C 0, 600, .inl f1)), (a2, .inl (C 1, 600, .inl f2)), (a3, .inl (C 0, 600, .inl f3)), (a7, .inl (C 0, 5999, .inl f7)), (a8, .inl (C 0, 5999, .inl f8)), (a9, .inl (C 0, 5999, .inl f9)), (a10, .inl (C 0, 5999, .inl f10)), (a11, .inl (C 0, 5999, .inl f11))]) [0, 1, 2, 3, 4, 5, 6, 7, 8, 9] rfl
      have hDc := hD.sub (ws' := [(s0, .inr (3, [.ref a0, .ref a1, .ref a2, .ref a3, .ref a4, .ref a5, .ref a6, .int 0, .ref a7, .ref a8, .ref a9, .ref a10, .ref a11, .int 0])), (a0, .inl (C 0, 600, .inl f0)), (a1, .inl (C 0, 600, .inl f1)), (a2, .inl (C 1, 600, .inl f2)), (a3, .inl (C 0, 600, .inl f3)), (a7, .inl (C 0, 5999, .inl f7)), (a8, .inl (C 0, 5999, .inl f8)), (a9, .inl (C 0, 5999, .inl f9)), (a10, .inl (C 0, 5999, .inl f10)), (a11, .inl (C 0, 5999, .inl f11))]) [0, 1, 2, 3, 4, 5, 6, 7, 8, 9] (by decide) rfl
      have hFc := va_free (wc := [(s0, .inr (3, [.ref a0, .ref a1, .ref a2, .ref a3, .ref a4, .ref a5, .ref a6, .int 0, .ref a7, .ref a8, .ref a9, .ref a10, .ref a11, .int 0])), (a0, .inl (C 0, 600, .inl f0)), (a1, .inl (C 0, 600, .inl f1)), (a2, .inl (C 1, 600, .inl f2)), (a3, .inl (C 0, 600, .inl f3)), (a7, .inl (C 0, 5999, .inl f7)), (a8, .inl (C 0, 5999, .inl f8)), (a9, .inl (C 0, 5999, .inl f9)), (a10, .inl (C 0, 5999, .inl f10)), (a11, .inl (C 0, 5999, .inl f11))]) hD hS hA [0, 1, 2, 3, 4, 5, 6, 7, 8, 9] rfl
      refine va_calli (va_runV (As := [.int p0]) (rest := []) ⟨hx, hb, hml, hown, ht⟩ (k3_addArray l D C b0 H.size s0 a0 a1 a2 a3 a4 a5 a6 a7 a8 a9 a10 a11 f0 f1 f2 f3 f7 f8 f9 f10 f11 p0) (cwV 1 ht (xg_V m_290 m_291 m_292 m_217 m_175) rfl rfl rfl (by decide +kernel) ⟨Nat.le_of_ble_eq_true rfl, Nat.le_of_ble_eq_true rfl⟩) ⟨xPc_bl, va_recv hK hPc (ci := 3) (q0 := 0) rfl rfl, xPc_at hPc hK hDc hE hS hAb⟩ rfl rfl hl.1 rfl (lv_room (Nat.le_of_ble_eq_true rfl)) dX5_array_29 ⟨(by decide), (by decide)⟩) hS (fun q _ h => hFc q h) hFc (fun r_2 u_3 t H1 locs ht1 hvm hw hB hz1 hk1 hS => ?_)
      obtain ⟨hP1, hD1⟩ := hB
      rw [ht1] at hP1
      try dsimp only at hw
      obtain ⟨hP, hD⟩ := va_join (wr := [(h0, .inr (5, [.ref s0, .ref de, .ref kl, .ref tl, .ref cu, .ref hk, .ref ca, .int 0, .int 0, .int (-1), .int 0, .int 0])), (kl, .inr (2, [.ref kx, .ref ky, .int 0])), (tl, .inr (4, [.ref tx, .ref ty, .int 2]))]) (w1 := []) hP hD [0, 1, 2, 3, 4, 5, 6, 7, 8, 9] [10, 11, 12] rfl rfl (by decide) (by decide) hk1 hFc hP1 hD1
      generalize H1 = H at hP hS ⊢
      have hP : va_P D vwCl [(h0, .inr (5, [.ref s0, .ref de, .ref kl, .ref tl, .ref cu, .ref hk, .ref ca, .int 0, .int 0, .int (-1), .int 0, .int 0])), (kl, .inr (2, [.ref kx, .ref ky, .int 0])), (tl, .inr (4, [.ref tx, .ref ty, .int 2]))] H := hP
      have hD : va_D A [(h0, .inr (5, [.ref s0, .ref de, .ref kl, .ref tl, .ref cu, .ref hk, .ref ca, .int 0, .int 0, .int (-1), .int 0, .int 0])), (kl, .inr (2, [.ref kx, .ref ky, .int 0])), (tl, .inr (4, [.ref tx, .ref ty, .int 2]))] := hD
      have hq_29 := hw
      obtain rfl : r_2 = (-2 : Int32) := hw
      have hP9 := hP.sub (ws' := []) [] rfl
      have hD9 := hD.sub (ws' := []) [] (by decide) rfl
      refine W.widen (k := 3) (n := 18) (by decide) (by decide) ?_
      refine vx_ret ?_
      exact W.iret (v := (-2)) hx hb hr (fun t ht1 hW => ⟨⟨(-2), (xA [], xF []), rfl, ⟨⟨c_5, c_11⟩, rfl⟩, by rw [ht1]; exact hP9, hD9⟩, hS.F ht1⟩) hS.2.2 dX5_array_32
    · skip
      exact x_thrI (text := "a length is 0 to 100") (mc := 3) (ms := 18) hx hb hl0 hown ht hE hAb (by decide +kernel) hS (by rw [hml]; exact hl.1) dX5_array_14 dX5_array_17 dX5_array_18 dX5_array_20 dX5_array_23 htab (Nat.le_of_ble_eq_true rfl) (Nat.le_of_ble_eq_true rfl) (by decide) (by decide) hlocks (fun t hv1 hz1 hq1 => ⟨(), by first | exact fun h => h.1 c_5 | exact fun h => c_11 h.2, rfl, x_F hS hz1 hq1⟩) hS.2.2 (by decide) (by decide)
set_option maxHeartbeats 4000000 in
set_option maxRecDepth 100000 in
theorem k5_function (l : Launch) (hl0 : l.stackTraces = false) (D : va_G) (C : Nat → ClassId) (b0 sz : Nat) (h0 : Nat) (s0 : Nat) (de : Nat) (kl : Nat) (tl : Nat) (cu : Nat) (hk : Nat) (ca : Nat) (kx : Nat) (ky : Nat) (tx : Nat) (ty : Nat) (a0 : Nat) (a1 : Nat) (a2 : Nat) (a3 : Nat) (a4 : Nat) (a5 : Nat) (a6 : Nat) (a7 : Nat) (a8 : Nat) (a9 : Nat) (a10 : Nat) (a11 : Nat) (f0 : Nat → Int32) (f1 : Nat → Int32) (f2 : Nat → Int32) (f3 : Nat → Int32) (f4 : Nat → Int32) (f5 : Nat → Int32) (f6 : Nat → Int32) (p0 : Int32) (p1 : Int32) (p2 : Int32) : vx_Met l yX5_function (xw yX5_function cX5_function 4 (some .int)) ({ frames := 48, cells := 3, slots := 18, locals := 900 }) (xPc D C b0 [.ref h0, .int p0, .int p1, .int p2] [(h0, .inr (5, [.ref s0, .ref de, .ref kl, .ref tl, .ref cu, .ref hk, .ref ca, .int 0, .int 0, .int (-1), .int 0, .int 0])), (kl, .inr (2, [.ref kx, .ref ky, .int 0])), (tl, .inr (4, [.ref tx, .ref ty, .int 1])), (s0, .inr (3, [.ref a0, .ref a1, .ref a2, .ref a3, .ref a4, .ref a5, .ref a6, .int 0, .ref a7, .ref a8, .ref a9, .ref a10, .ref a11, .int 0])), (a0, .inl (C 0, 600, .inl f0)), (a1, .inl (C 0, 600, .inl f1)), (a2, .inl (C 1, 600, .inl f2)), (a3, .inl (C 0, 600, .inl f3)), (a4, .inl (C 0, 600, .inl f4)), (a5, .inl (C 0, 600, .inl f5)), (a6, .inl (C 0, 600, .inl f6))] sz) (va_Qi (fun (r : Int32) (u : xS) => ((¬ p0 < 0 ∧ p0 ≤ 5) ∧ (¬ p1 < 0 ∧ p1 < 250) ∧ ¬ p2 < -1 ∧ ¬ 1250 ≤ p2) ∧ r = -2) (xBw D (va_A [(h0, .inr (5, [.ref s0, .ref de, .ref kl, .ref tl, .ref cu, .ref hk, .ref ca, .int 0, .int 0, .int (-1), .int 0, .int 0])), (kl, .inr (2, [.ref kx, .ref ky, .int 0])), (tl, .inr (4, [.ref tx, .ref ty, .int 1])), (s0, .inr (3, [.ref a0, .ref a1, .ref a2, .ref a3, .ref a4, .ref a5, .ref a6, .int 0, .ref a7, .ref a8, .ref a9, .ref a10, .ref a11, .int 0])), (a0, .inl (C 0, 600, .inl f0)), (a1, .inl (C 0, 600, .inl f1)), (a2, .inl (C 1, 600, .inl f2)), (a3, .inl (C 0, 600, .inl f3)), (a4, .inl (C 0, 600, .inl f4)), (a5, .inl (C 0, 600, .inl f5)), (a6, .inl (C 0, 600, .inl f6))] sz) (fun u => [])) (va_A [(h0, .inr (5, [.ref s0, .ref de, .ref kl, .ref tl, .ref cu, .ref hk, .ref ca, .int 0, .int 0, .int (-1), .int 0, .int 0])), (kl, .inr (2, [.ref kx, .ref ky, .int 0])), (tl, .inr (4, [.ref tx, .ref ty, .int 1])), (s0, .inr (3, [.ref a0, .ref a1, .ref a2, .ref a3, .ref a4, .ref a5, .ref a6, .int 0, .ref a7, .ref a8, .ref a9, .ref a10, .ref a11, .int 0])), (a0, .inl (C 0, 600, .inl f0)), (a1, .inl (C 0, 600, .inl f1)), (a2, .inl (C 1, 600, .inl f2)), (a3, .inl (C 0, 600, .inl f3)), (a4, .inl (C 0, 600, .inl f4)), (a5, .inl (C 0, 600, .inl f5)), (a6, .inl (C 0, 600, .inl f6))] sz)) (xX xIAE (¬ ((¬ p0 < 0 ∧ p0 ≤ 5) ∧ (¬ p1 < 0 ∧ p1 < 250) ∧ ¬ p2 < -1 ∧ ¬ 1250 ≤ p2)) (va_A [(h0, .inr (5, [.ref s0, .ref de, .ref kl, .ref tl, .ref cu, .ref hk, .ref ca, .int 0, .int 0, .int (-1), .int 0, .int 0])), (kl, .inr (2, [.ref kx, .ref ky, .int 0])), (tl, .inr (4, [.ref tx, .ref ty, .int 1])), (s0, .inr (3, [.ref a0, .ref a1, .ref a2, .ref a3, .ref a4, .ref a5, .ref a6, .int 0, .ref a7, .ref a8, .ref a9, .ref a10, .ref a11, .int 0])), (a0, .inl (C 0, 600, .inl f0)), (a1, .inl (C 0, 600, .inl f1)), (a2, .inl (C 1, 600, .inl f2)), (a3, .inl (C 0, 600, .inl f3)), (a4, .inl (C 0, 600, .inl f4)), (a5, .inl (C 0, 600, .inl f5)), (a6, .inl (C 0, 600, .inl f6))] sz)) 3 18 (va_A [(h0, .inr (5, [.ref s0, .ref de, .ref kl, .ref tl, .ref cu, .ref hk, .ref ca, .int 0, .int 0, .int (-1), .int 0, .int 0])), (kl, .inr (2, [.ref kx, .ref ky, .int 0])), (tl, .inr (4, [.ref tx, .ref ty, .int 1])), (s0, .inr (3, [.ref a0, .ref a1, .ref a2, .ref a3, .ref a4, .ref a5, .ref a6, .int 0, .ref a7, .ref a8, .ref a9, .ref a10, .ref a11, .int 0])), (a0, .inl (C 0, 600, .inl f0)), (a1, .inl (C 0, 600, .inl f1)), (a2, .inl (C 1, 600, .inl f2)), (a3, .inl (C 0, 600, .inl f3)), (a4, .inl (C 0, 600, .inl f4)), (a5, .inl (C 0, 600, .inl f5)), (a6, .inl (C 0, 600, .inl f6))] sz) := by
  refine vx_ofW (cc := cX5_function) (maxL := 4) (ret := (some .int)) (by decide) rfl ?_
  intro p e s m args below meth c s₁ B hml htab hv
  obtain ⟨rfl, hsz, hP, hK, hD0, hE⟩ := hv
  have hx := B.exec
  have hb := B.bytes
  have hr := B.returns
  have ht : ∀ w ∈ xb, w.before _ s = true := fun w h => atoms_spec (ws := xw yX5_function cX5_function 4 (some .int)) B.pre w (List.mem_cons_of_mem _ h)
  have hown : s.vm.findClass RX5 = some m.cls := findClass_of_methodNamed B.named
  have hlocks := B.notSynchronized
  subst hsz
  have hAb := x_Ab hD0 hE.1
  have hD := hD0.self (sz := s.heap.size)
  generalize hAe : va_A [(h0, .inr (5, [.ref s0, .ref de, .ref kl, .ref tl, .ref cu, .ref hk, .ref ca, .int 0, .int 0, .int (-1), .int 0, .int 0])), (kl, .inr (2, [.ref kx, .ref ky, .int 0])), (tl, .inr (4, [.ref tx, .ref ty, .int 1])), (s0, .inr (3, [.ref a0, .ref a1, .ref a2, .ref a3, .ref a4, .ref a5, .ref a6, .int 0, .ref a7, .ref a8, .ref a9, .ref a10, .ref a11, .int 0])), (a0, .inl (C 0, 600, .inl f0)), (a1, .inl (C 0, 600, .inl f1)), (a2, .inl (C 1, 600, .inl f2)), (a3, .inl (C 0, 600, .inl f3)), (a4, .inl (C 0, 600, .inl f4)), (a5, .inl (C 0, 600, .inl f5)), (a6, .inl (C 0, 600, .inl f6))] s.heap.size = A at hD hAb ⊢
  have hA : ∀ q : Nat, s.heap.size ≤ q → A q := fun q h => by rw [← hAe]; exact Or.inr h
  have hS : va_S A s.heap s.heap [] := va_S.rf
  have hP : va_P D vwCl [(h0, .inr (5, [.ref s0, .ref de, .ref kl, .ref tl, .ref cu, .ref hk, .ref ca, .int 0, .int 0, .int (-1), .int 0, .int 0])), (kl, .inr (2, [.ref kx, .ref ky, .int 0])), (tl, .inr (4, [.ref tx, .ref ty, .int 1])), (s0, .inr (3, [.ref a0, .ref a1, .ref a2, .ref a3, .ref a4, .ref a5, .ref a6, .int 0, .ref a7, .ref a8, .ref a9, .ref a10, .ref a11, .int 0])), (a0, .inl (C 0, 600, .inl f0)), (a1, .inl (C 0, 600, .inl f1)), (a2, .inl (C 1, 600, .inl f2)), (a3, .inl (C 0, 600, .inl f3)), (a4, .inl (C 0, 600, .inl f4)), (a5, .inl (C 0, 600, .inl f5)), (a6, .inl (C 0, 600, .inl f6))] s.heap := hP
  have hl := lv_entry ([.ref h0, .int p0, .int p1, .int p2]) (n := 4) (Nat.le_of_ble_eq_true rfl)
  rw [lg_entry_eq]
  generalize (lg_sl ([.ref h0, .int p0, .int p1, .int p2]) ++ List.replicate (4 - (lg_sl ([.ref h0, .int p0, .int p1, .int p2])).length) Slot.unset).toArray = ls at hl ⊢
  have hl : lv_has ls 4 [(0, .ref h0), (1, .int p0), (2, .int p1), (3, .int p2)] := hl
  refine lv_aload_n hx hb dX5_function_0 rfl (lv_at hl 0 rfl) ?_
  have hPc := hP.sub (ws' := [(h0, .inr (5, [.ref s0, .ref de, .ref kl, .ref tl, .ref cu, .ref hk, .ref ca, .int 0, .int 0, .int (-1), .int 0, .int 0])), (kl, .inr (2, [.ref kx, .ref ky, .int 0])), (tl, .inr (4, [.ref tx, .ref ty, .int 1]))]) [0, 1, 2] rfl
  have hDc := hD.sub (ws' := [(h0, .inr (5, [.ref s0, .ref de, .ref kl, .ref tl, .ref cu, .ref hk, .ref ca, .int 0, .int 0, .int (-1), .int 0, .int 0])), (kl, .inr (2, [.ref kx, .ref ky, .int 0])), (tl, .inr (4, [.ref tx, .ref ty, .int 1]))]) [0, 1, 2] (by decide) rfl
  have hFc := va_free (wc := [(h0, .inr (5, [.ref s0, .ref de, .ref kl, .ref tl, .ref cu, .ref hk, .ref ca, .int 0, .int 0, .int (-1), .int 0, .int 0])), (kl, .inr (2, [.ref kx, .ref ky, .int 0])), (tl, .inr (4, [.ref tx, .ref ty, .int 1]))]) hD hS hA [0, 1, 2] rfl
  refine va_callv (va_runV (As := []) (rest := []) ⟨hx, hb, hml, hown, ht⟩ (k5_begin l D C b0 s.heap.size h0 s0 de kl tl cu hk ca kx ky tx ty) (cwV 0 ht (xg_V m_281 m_282 m_283 m_240 m_162) rfl rfl rfl (by decide +kernel) ⟨Nat.le_of_ble_eq_true rfl, Nat.le_of_ble_eq_true rfl⟩) ⟨xPc_bl, va_recv hK hPc (ci := 5) (q0 := 0) rfl rfl, xPc_at hPc hK hDc hE hS hAb⟩ rfl rfl hl.1 rfl (lv_room (Nat.le_of_ble_eq_true rfl)) dX5_function_1 ⟨(by decide), (by decide)⟩) hS (fun q _ h => hFc q h) hFc (fun u_1 t H1 locs ht1 hvm hw hB hz1 hk1 hS => ?_)
  obtain ⟨hP1, hD1⟩ := hB
  rw [ht1] at hP1
  try dsimp only at hw
  obtain ⟨hP, hD⟩ := va_join (wr := [(s0, .inr (3, [.ref a0, .ref a1, .ref a2, .ref a3, .ref a4, .ref a5, .ref a6, .int 0, .ref a7, .ref a8, .ref a9, .ref a10, .ref a11, .int 0])), (a0, .inl (C 0, 600, .inl f0)), (a1, .inl (C 0, 600, .inl f1)), (a2, .inl (C 1, 600, .inl f2)), (a3, .inl (C 0, 600, .inl f3)), (a4, .inl (C 0, 600, .inl f4)), (a5, .inl (C 0, 600, .inl f5)), (a6, .inl (C 0, 600, .inl f6))]) (w1 := [(h0, .inr (5, [.ref s0, .ref de, .ref kl, .ref tl, .ref cu, .ref hk, .ref ca, .int 0, .int 0, .int (-1), .int 0, .int 0])), (kl, .inr (2, [.ref kx, .ref ky, .int 0])), (tl, .inr (4, [.ref tx, .ref ty, .int 2]))]) hP hD [0, 1, 2] [3, 4, 5, 6, 7, 8, 9, 10] rfl rfl (by decide) (by decide) hk1 hFc hP1 hD1
  generalize H1 = H at hP hS ⊢
  have hP : va_P D vwCl [(s0, .inr (3, [.ref a0, .ref a1, .ref a2, .ref a3, .ref a4, .ref a5, .ref a6, .int 0, .ref a7, .ref a8, .ref a9, .ref a10, .ref a11, .int 0])), (a0, .inl (C 0, 600, .inl f0)), (a1, .inl (C 0, 600, .inl f1)), (a2, .inl (C 1, 600, .inl f2)), (a3, .inl (C 0, 600, .inl f3)), (a4, .inl (C 0, 600, .inl f4)), (a5, .inl (C 0, 600, .inl f5)), (a6, .inl (C 0, 600, .inl f6)), (h0, .inr (5, [.ref s0, .ref de, .ref kl, .ref tl, .ref cu, .ref hk, .ref ca, .int 0, .int 0, .int (-1), .int 0, .int 0])), (kl, .inr (2, [.ref kx, .ref ky, .int 0])), (tl, .inr (4, [.ref tx, .ref ty, .int 2]))] H := hP
  have hD : va_D A [(s0, .inr (3, [.ref a0, .ref a1, .ref a2, .ref a3, .ref a4, .ref a5, .ref a6, .int 0, .ref a7, .ref a8, .ref a9, .ref a10, .ref a11, .int 0])), (a0, .inl (C 0, 600, .inl f0)), (a1, .inl (C 0, 600, .inl f1)), (a2, .inl (C 1, 600, .inl f2)), (a3, .inl (C 0, 600, .inl f3)), (a4, .inl (C 0, 600, .inl f4)), (a5, .inl (C 0, 600, .inl f5)), (a6, .inl (C 0, 600, .inl f6)), (h0, .inr (5, [.ref s0, .ref de, .ref kl, .ref tl, .ref cu, .ref hk, .ref ca, .int 0, .int 0, .int (-1), .int 0, .int 0])), (kl, .inr (2, [.ref kx, .ref ky, .int 0])), (tl, .inr (4, [.ref tx, .ref ty, .int 2]))] := hD
  have hq_1 := hw
  refine lv_iload_n hx hb dX5_function_4 rfl (lv_at hl 1 rfl) ?_
  refine lv_if_lt (tgt := 13) hx hb dX5_function_5 (by decide) (fun c_5 => ?_) (fun c_5 => ?_)
  · skip
    exact x_thrI (text := "an act is 0 to 5") (mc := 3) (ms := 18) hx hb hl0 hown ht hE hAb (by decide +kernel) hS (by rw [hml]; exact hl.1) dX5_function_13 dX5_function_16 dX5_function_17 dX5_function_19 dX5_function_22 htab (Nat.le_of_ble_eq_true rfl) (Nat.le_of_ble_eq_true rfl) (by decide) (by decide) hlocks (fun t hv1 hz1 hq1 => ⟨(), by first | exact fun h => h.1.1 c_5 | exact fun h => c_10 h.1.2, rfl, x_F hS hz1 hq1⟩) hS.2.2 (by decide) (by decide)
  · skip
    refine lv_iload_n hx hb dX5_function_8 rfl (lv_at hl 1 rfl) ?_
    refine lv_iconst (v := 5) hx hb dX5_function_9 (by decide) ?_
    refine lv_icmp_le (tgt := 23) hx hb dX5_function_10 (by decide) (fun c_10 => ?_) (fun c_10 => ?_)
    · skip
      refine lv_aload_n hx hb dX5_function_23 rfl (lv_at hl 0 rfl) ?_
      refine lv_iload_n hx hb dX5_function_24 rfl (lv_at hl 2 rfl) ?_
      have hPc := hP.sub (ws' := [(h0, .inr (5, [.ref s0, .ref de, .ref kl, .ref tl, .ref cu, .ref hk, .ref ca, .int 0, .int 0, .int (-1), .int 0, .int 0]))]) [8] rfl
      have hDc := hD.sub (ws' := [(h0, .inr (5, [.ref s0, .ref de, .ref kl, .ref tl, .ref cu, .ref hk, .ref ca, .int 0, .int 0, .int (-1), .int 0, .int 0]))]) [8] (by decide) rfl
      have hFc := va_free (wc := [(h0, .inr (5, [.ref s0, .ref de, .ref kl, .ref tl, .ref cu, .ref hk, .ref ca, .int 0, .int 0, .int (-1), .int 0, .int 0]))]) hD hS hA [8] rfl
      refine vx_callv (vx_runV (As := [.int p1]) (rest := []) ⟨hx, hb, hml, hown, ht⟩ (k5_requireKey l hl0 D C b0 H.size h0 s0 de kl tl cu hk ca p1) (cwV 1 ht (xg_V m_293 m_294 m_295 m_240 m_165) rfl rfl rfl (by decide +kernel) ⟨Nat.le_of_ble_eq_true rfl, Nat.le_of_ble_eq_true rfl⟩) ⟨xPc_bl, va_recv hK hPc (ci := 5) (q0 := 0) rfl rfl, xPc_at hPc hK hDc hE hS hAb⟩ rfl rfl hl.1 rfl (lv_room (Nat.le_of_ble_eq_true rfl)) dX5_function_25 ⟨(by decide), (by decide)⟩) hS (fun q _ h => hFc q h) hFc (fun q _ h => hFc q h) (fun E ce q9 u9 t9 H9 locs9 e9 v9 p9 b9 z9 k9 hS9 hc9 hn9 hf9 => ?_) (fun u_2 t H1 locs ht1 hvm hw hB hz1 hk1 hS => ?_)
      · skip
        obtain rfl := b9
        exact vx_out (mc := 3) (ms := 18) (fun x hx => (htab x hx).elim) hlocks hc9 hn9 hf9 (fun t ht1 hW1 => ⟨(), fun h => p9.elim h.2.1.1 (fun z => z h.2.1.2), rfl, hS9.F ht1⟩) hS9.2.2 (by decide) (by decide)
      · skip
        obtain ⟨hP1, hD1⟩ := hB
        rw [ht1] at hP1
        try dsimp only at hw
        obtain ⟨hP, hD⟩ := va_join (wr := [(s0, .inr (3, [.ref a0, .ref a1, .ref a2, .ref a3, .ref a4, .ref a5, .ref a6, .int 0, .ref a7, .ref a8, .ref a9, .ref a10, .ref a11, .int 0])), (a0, .inl (C 0, 600, .inl f0)), (a1, .inl (C 0, 600, .inl f1)), (a2, .inl (C 1, 600, .inl f2)), (a3, .inl (C 0, 600, .inl f3)), (a4, .inl (C 0, 600, .inl f4)), (a5, .inl (C 0, 600, .inl f5)), (a6, .inl (C 0, 600, .inl f6)), (kl, .inr (2, [.ref kx, .ref ky, .int 0])), (tl, .inr (4, [.ref tx, .ref ty, .int 2]))]) (w1 := [(h0, .inr (5, [.ref s0, .ref de, .ref kl, .ref tl, .ref cu, .ref hk, .ref ca, .int 0, .int 0, .int (-1), .int 0, .int 0]))]) hP hD [8] [0, 1, 2, 3, 4, 5, 6, 7, 9, 10] rfl rfl (by decide) (by decide) hk1 hFc hP1 hD1
        generalize H1 = H at hP hS ⊢
        have hP : va_P D vwCl [(s0, .inr (3, [.ref a0, .ref a1, .ref a2, .ref a3, .ref a4, .ref a5, .ref a6, .int 0, .ref a7, .ref a8, .ref a9, .ref a10, .ref a11, .int 0])), (a0, .inl (C 0, 600, .inl f0)), (a1, .inl (C 0, 600, .inl f1)), (a2, .inl (C 1, 600, .inl f2)), (a3, .inl (C 0, 600, .inl f3)), (a4, .inl (C 0, 600, .inl f4)), (a5, .inl (C 0, 600, .inl f5)), (a6, .inl (C 0, 600, .inl f6)), (kl, .inr (2, [.ref kx, .ref ky, .int 0])), (tl, .inr (4, [.ref tx, .ref ty, .int 2])), (h0, .inr (5, [.ref s0, .ref de, .ref kl, .ref tl, .ref cu, .ref hk, .ref ca, .int 0, .int 0, .int (-1), .int 0, .int 0]))] H := hP
        have hD : va_D A [(s0, .inr (3, [.ref a0, .ref a1, .ref a2, .ref a3, .ref a4, .ref a5, .ref a6, .int 0, .ref a7, .ref a8, .ref a9, .ref a10, .ref a11, .int 0])), (a0, .inl (C 0, 600, .inl f0)), (a1, .inl (C 0, 600, .inl f1)), (a2, .inl (C 1, 600, .inl f2)), (a3, .inl (C 0, 600, .inl f3)), (a4, .inl (C 0, 600, .inl f4)), (a5, .inl (C 0, 600, .inl f5)), (a6, .inl (C 0, 600, .inl f6)), (kl, .inr (2, [.ref kx, .ref ky, .int 0])), (tl, .inr (4, [.ref tx, .ref ty, .int 2])), (h0, .inr (5, [.ref s0, .ref de, .ref kl, .ref tl, .ref cu, .ref hk, .ref ca, .int 0, .int 0, .int (-1), .int 0, .int 0]))] := hD
        have hq_25 := hw
        refine W.widen (k := 1) (n := 6) (by decide) (by decide) ?_
        refine lv_aload_n hx hb dX5_function_28 rfl (lv_at hl 0 rfl) ?_
        refine lv_iload_n hx hb dX5_function_29 rfl (lv_at hl 3 rfl) ?_
        have hPc := hP.sub (ws' := [(h0, .inr (5, [.ref s0, .ref de, .ref kl, .ref tl, .ref cu, .ref hk, .ref ca, .int 0, .int 0, .int (-1), .int 0, .int 0])), (s0, .inr (3, [.ref a0, .ref a1, .ref a2, .ref a3, .ref a4, .ref a5, .ref a6, .int 0, .ref a7, .ref a8, .ref a9, .ref a10, .ref a11, .int 0]))]) [10, 0] rfl
        have hDc := hD.sub (ws' := [(h0, .inr (5, [.ref s0, .ref de, .ref kl, .ref tl, .ref cu, .ref hk, .ref ca, .int 0, .int 0, .int (-1), .int 0, .int 0])), (s0, .inr (3, [.ref a0, .ref a1, .ref a2, .ref a3, .ref a4, .ref a5, .ref a6, .int 0, .ref a7, .ref a8, .ref a9, .ref a10, .ref a11, .int 0]))]) [10, 0] (by decide) rfl
        have hFc := va_free (wc := [(h0, .inr (5, [.ref s0, .ref de, .ref kl, .ref tl, .ref cu, .ref hk, .ref ca, .int 0, .int 0, .int (-1), .int 0, .int 0])), (s0, .inr (3, [.ref a0, .ref a1, .ref a2, .ref a3, .ref a4, .ref a5, .ref a6, .int 0, .ref a7, .ref a8, .ref a9, .ref a10, .ref a11, .int 0]))]) hD hS hA [10, 0] rfl
        refine vx_callv (vx_runV (As := [.int p2]) (rest := []) ⟨hx, hb, hml, hown, ht⟩ (k5_requireValue l hl0 D C b0 H.size h0 s0 de kl tl cu hk ca a0 a1 a2 a3 a4 a5 a6 a7 a8 a9 a10 a11 p2) (cwV 1 ht (xg_V m_296 m_297 m_298 m_240 m_178) rfl rfl rfl (by decide +kernel) ⟨Nat.le_of_ble_eq_true rfl, Nat.le_of_ble_eq_true rfl⟩) ⟨xPc_bl, va_recv hK hPc (ci := 5) (q0 := 0) rfl rfl, xPc_at hPc hK hDc hE hS hAb⟩ rfl rfl hl.1 rfl (lv_room (Nat.le_of_ble_eq_true rfl)) dX5_function_30 ⟨(by decide), (by decide)⟩) hS (fun q _ h => hFc q h) hFc (fun q _ h => hFc q h) (fun E ce q9 u9 t9 H9 locs9 e9 v9 p9 b9 z9 k9 hS9 hc9 hn9 hf9 => ?_) (fun u_3 t H1 locs ht1 hvm hw hB hz1 hk1 hS => ?_)
        · skip
          obtain rfl := b9
          exact vx_out (mc := 3) (ms := 18) (fun x hx => (htab x hx).elim) hlocks hc9 hn9 hf9 (fun t ht1 hW1 => ⟨(), fun h => p9.elim h.2.2.1 (fun z => z h.2.2.2), rfl, hS9.F ht1⟩) hS9.2.2 (by decide) (by decide)
        · skip
          obtain ⟨hP1, hD1⟩ := hB
          rw [ht1] at hP1
          try dsimp only at hw
          obtain ⟨hP, hD⟩ := va_join (wr := [(a0, .inl (C 0, 600, .inl f0)), (a1, .inl (C 0, 600, .inl f1)), (a2, .inl (C 1, 600, .inl f2)), (a3, .inl (C 0, 600, .inl f3)), (a4, .inl (C 0, 600, .inl f4)), (a5, .inl (C 0, 600, .inl f5)), (a6, .inl (C 0, 600, .inl f6)), (kl, .inr (2, [.ref kx, .ref ky, .int 0])), (tl, .inr (4, [.ref tx, .ref ty, .int 2]))]) (w1 := [(h0, .inr (5, [.ref s0, .ref de, .ref kl, .ref tl, .ref cu, .ref hk, .ref ca, .int 0, .int 0, .int (-1), .int 0, .int 0])), (s0, .inr (3, [.ref a0, .ref a1, .ref a2, .ref a3, .ref a4, .ref a5, .ref a6, .int 0, .ref a7, .ref a8, .ref a9, .ref a10, .ref a11, .int 0]))]) hP hD [10, 0] [1, 2, 3, 4, 5, 6, 7, 8, 9] rfl rfl (by decide) (by decide) hk1 hFc hP1 hD1
          generalize H1 = H at hP hS ⊢
          have hP : va_P D vwCl [(a0, .inl (C 0, 600, .inl f0)), (a1, .inl (C 0, 600, .inl f1)), (a2, .inl (C 1, 600, .inl f2)), (a3, .inl (C 0, 600, .inl f3)), (a4, .inl (C 0, 600, .inl f4)), (a5, .inl (C 0, 600, .inl f5)), (a6, .inl (C 0, 600, .inl f6)), (kl, .inr (2, [.ref kx, .ref ky, .int 0])), (tl, .inr (4, [.ref tx, .ref ty, .int 2])), (h0, .inr (5, [.ref s0, .ref de, .ref kl, .ref tl, .ref cu, .ref hk, .ref ca, .int 0, .int 0, .int (-1), .int 0, .int 0])), (s0, .inr (3, [.ref a0, .ref a1, .ref a2, .ref a3, .ref a4, .ref a5, .ref a6, .int 0, .ref a7, .ref a8, .ref a9, .ref a10, .ref a11, .int 0]))] H := hP
          have hD : va_D A [(a0, .inl (C 0, 600, .inl f0)), (a1, .inl (C 0, 600, .inl f1)), (a2, .inl (C 1, 600, .inl f2)), (a3, .inl (C 0, 600, .inl f3)), (a4, .inl (C 0, 600, .inl f4)), (a5, .inl (C 0, 600, .inl f5)), (a6, .inl (C 0, 600, .inl f6)), (kl, .inr (2, [.ref kx, .ref ky, .int 0])), (tl, .inr (4, [.ref tx, .ref ty, .int 2])), (h0, .inr (5, [.ref s0, .ref de, .ref kl, .ref tl, .ref cu, .ref hk, .ref ca, .int 0, .int 0, .int (-1), .int 0, .int 0])), (s0, .inr (3, [.ref a0, .ref a1, .ref a2, .ref a3, .ref a4, .ref a5, .ref a6, .int 0, .ref a7, .ref a8, .ref a9, .ref a10, .ref a11, .int 0]))] := hD
          have hq_30 := hw
          refine W.widen (k := 2) (n := 12) (by decide) (by decide) ?_
          refine lv_aload_n hx hb dX5_function_33 rfl (lv_at hl 0 rfl) ?_
          refine va_get (D := D) (ci := 5) (v := .ref s0) (C := RX5) (T := TX5) (N := 12) hx hb ht inX5 hown hK hP 9 rfl rfl 0 (by decide) (ht _ m_233) (fun _ h9 => h9) rfl dX5_function_34 ?_
          refine lv_iload_n hx hb dX5_function_37 rfl (lv_at hl 1 rfl) ?_
          refine lv_iload_n hx hb dX5_function_38 rfl (lv_at hl 2 rfl) ?_
          refine lv_iload_n hx hb dX5_function_39 rfl (lv_at hl 3 rfl) ?_
          have hPc := hP.sub (ws' := [(s0, .inr (3, [.ref a0, .ref a1, .ref a2, .ref a3, .ref a4, .ref a5, .ref a6, .int 0, .ref a7, .ref a8, .ref a9, .ref a10, .ref a11, .int 0])), (a0, .inl (C 0, 600, .inl f0)), (a1, .inl (C 0, 600, .inl f1)), (a2, .inl (C 1, 600, .inl f2)), (a3, .inl (C 0, 600, .inl f3)), (a4, .inl (C 0, 600, .inl f4)), (a5, .inl (C 0, 600, .inl f5)), (a6, .inl (C 0, 600, .inl f6))]) [10, 0, 1, 2, 3, 4, 5, 6] rfl
          have hDc := hD.sub (ws' := [(s0, .inr (3, [.ref a0, .ref a1, .ref a2, .ref a3, .ref a4, .ref a5, .ref a6, .int 0, .ref a7, .ref a8, .ref a9, .ref a10, .ref a11, .int 0])), (a0, .inl (C 0, 600, .inl f0)), (a1, .inl (C 0, 600, .inl f1)), (a2, .inl (C 1, 600, .inl f2)), (a3, .inl (C 0, 600, .inl f3)), (a4, .inl (C 0, 600, .inl f4)), (a5, .inl (C 0, 600, .inl f5)), (a6, .inl (C 0, 600, .inl f6))]) [10, 0, 1, 2, 3, 4, 5, 6] (by decide) rfl
          have hFc := va_free (wc := [(s0, .inr (3, [.ref a0, .ref a1, .ref a2, .ref a3, .ref a4, .ref a5, .ref a6, .int 0, .ref a7, .ref a8, .ref a9, .ref a10, .ref a11, .int 0])), (a0, .inl (C 0, 600, .inl f0)), (a1, .inl (C 0, 600, .inl f1)), (a2, .inl (C 1, 600, .inl f2)), (a3, .inl (C 0, 600, .inl f3)), (a4, .inl (C 0, 600, .inl f4)), (a5, .inl (C 0, 600, .inl f5)), (a6, .inl (C 0, 600, .inl f6))]) hD hS hA [10, 0, 1, 2, 3, 4, 5, 6] rfl
          refine va_calli (va_runV (As := [.int p0, .int p1, .int p2]) (rest := []) ⟨hx, hb, hml, hown, ht⟩ (k3_addFunction l D C b0 H.size s0 a0 a1 a2 a3 a4 a5 a6 a7 a8 a9 a10 a11 f0 f1 f2 f3 f4 f5 f6 p0 p1 p2) (cwV 3 ht (xg_V m_299 m_300 m_301 m_217 m_177) rfl rfl rfl (by decide +kernel) ⟨Nat.le_of_ble_eq_true rfl, Nat.le_of_ble_eq_true rfl⟩) ⟨xPc_bl, va_recv hK hPc (ci := 3) (q0 := 0) rfl rfl, xPc_at hPc hK hDc hE hS hAb⟩ rfl rfl hl.1 rfl (lv_room (Nat.le_of_ble_eq_true rfl)) dX5_function_40 ⟨(by decide), (by decide)⟩) hS (fun q _ h => hFc q h) hFc (fun r_4 u_5 t H1 locs ht1 hvm hw hB hz1 hk1 hS => ?_)
          obtain ⟨hP1, hD1⟩ := hB
          rw [ht1] at hP1
          try dsimp only at hw
          obtain ⟨hP, hD⟩ := va_join (wr := [(kl, .inr (2, [.ref kx, .ref ky, .int 0])), (tl, .inr (4, [.ref tx, .ref ty, .int 2])), (h0, .inr (5, [.ref s0, .ref de, .ref kl, .ref tl, .ref cu, .ref hk, .ref ca, .int 0, .int 0, .int (-1), .int 0, .int 0]))]) (w1 := []) hP hD [10, 0, 1, 2, 3, 4, 5, 6] [7, 8, 9] rfl rfl (by decide) (by decide) hk1 hFc hP1 hD1
          generalize H1 = H at hP hS ⊢
          have hP : va_P D vwCl [(kl, .inr (2, [.ref kx, .ref ky, .int 0])), (tl, .inr (4, [.ref tx, .ref ty, .int 2])), (h0, .inr (5, [.ref s0, .ref de, .ref kl, .ref tl, .ref cu, .ref hk, .ref ca, .int 0, .int 0, .int (-1), .int 0, .int 0]))] H := hP
          have hD : va_D A [(kl, .inr (2, [.ref kx, .ref ky, .int 0])), (tl, .inr (4, [.ref tx, .ref ty, .int 2])), (h0, .inr (5, [.ref s0, .ref de, .ref kl, .ref tl, .ref cu, .ref hk, .ref ca, .int 0, .int 0, .int (-1), .int 0, .int 0]))] := hD
          have hq_40 := hw
          obtain rfl : r_4 = (-2 : Int32) := hw
          have hP9 := hP.sub (ws' := []) [] rfl
          have hD9 := hD.sub (ws' := []) [] (by decide) rfl
          refine W.widen (k := 3) (n := 18) (by decide) (by decide) ?_
          refine vx_ret ?_
          exact W.iret (v := (-2)) hx hb hr (fun t ht1 hW => ⟨⟨(-2), (xA [], xF []), rfl, ⟨⟨⟨c_5, c_10⟩, hq_25, hq_30⟩, rfl⟩, by rw [ht1]; exact hP9, hD9⟩, hS.F ht1⟩) hS.2.2 dX5_function_43
    · skip
      exact x_thrI (text := "an act is 0 to 5") (mc := 3) (ms := 18) hx hb hl0 hown ht hE hAb (by decide +kernel) hS (by rw [hml]; exact hl.1) dX5_function_13 dX5_function_16 dX5_function_17 dX5_function_19 dX5_function_22 htab (Nat.le_of_ble_eq_true rfl) (Nat.le_of_ble_eq_true rfl) (by decide) (by decide) hlocks (fun t hv1 hz1 hq1 => ⟨(), by first | exact fun h => h.1.1 c_5 | exact fun h => c_10 h.1.2, rfl, x_F hS hz1 hq1⟩) hS.2.2 (by decide) (by decide)
set_option maxHeartbeats 4000000 in
set_option maxRecDepth 100000 in
theorem k5_proxy (l : Launch) (hl0 : l.stackTraces = false) (D : va_G) (C : Nat → ClassId) (b0 sz : Nat) (h0 : Nat) (s0 : Nat) (de : Nat) (kl : Nat) (tl : Nat) (cu : Nat) (hk : Nat) (ca : Nat) (kx : Nat) (ky : Nat) (tx : Nat) (ty : Nat) (a0 : Nat) (a1 : Nat) (a2 : Nat) (a3 : Nat) (a4 : Nat) (a5 : Nat) (a6 : Nat) (a7 : Nat) (a8 : Nat) (a9 : Nat) (a10 : Nat) (a11 : Nat) (p0 : Int32) (p1 : Int32) : vx_Met l yX5_proxy (xw yX5_proxy cX5_proxy 3 (some .int)) ({ frames := 48, cells := 3, slots := 18, locals := 900 }) (xPc D C b0 [.ref h0, .int p0, .int p1] [(h0, .inr (5, [.ref s0, .ref de, .ref kl, .ref tl, .ref cu, .ref hk, .ref ca, .int 0, .int 0, .int (-1), .int 0, .int 0])), (kl, .inr (2, [.ref kx, .ref ky, .int 0])), (tl, .inr (4, [.ref tx, .ref ty, .int 1])), (s0, .inr (3, [.ref a0, .ref a1, .ref a2, .ref a3, .ref a4, .ref a5, .ref a6, .int 0, .ref a7, .ref a8, .ref a9, .ref a10, .ref a11, .int 0]))] sz) (va_Qi (fun (r : Int32) (u : xS) => False) (xBw D (va_A [(h0, .inr (5, [.ref s0, .ref de, .ref kl, .ref tl, .ref cu, .ref hk, .ref ca, .int 0, .int 0, .int (-1), .int 0, .int 0])), (kl, .inr (2, [.ref kx, .ref ky, .int 0])), (tl, .inr (4, [.ref tx, .ref ty, .int 1])), (s0, .inr (3, [.ref a0, .ref a1, .ref a2, .ref a3, .ref a4, .ref a5, .ref a6, .int 0, .ref a7, .ref a8, .ref a9, .ref a10, .ref a11, .int 0]))] sz) (fun u => [])) (va_A [(h0, .inr (5, [.ref s0, .ref de, .ref kl, .ref tl, .ref cu, .ref hk, .ref ca, .int 0, .int 0, .int (-1), .int 0, .int 0])), (kl, .inr (2, [.ref kx, .ref ky, .int 0])), (tl, .inr (4, [.ref tx, .ref ty, .int 1])), (s0, .inr (3, [.ref a0, .ref a1, .ref a2, .ref a3, .ref a4, .ref a5, .ref a6, .int 0, .ref a7, .ref a8, .ref a9, .ref a10, .ref a11, .int 0]))] sz)) (xX xIAE (True) (va_A [(h0, .inr (5, [.ref s0, .ref de, .ref kl, .ref tl, .ref cu, .ref hk, .ref ca, .int 0, .int 0, .int (-1), .int 0, .int 0])), (kl, .inr (2, [.ref kx, .ref ky, .int 0])), (tl, .inr (4, [.ref tx, .ref ty, .int 1])), (s0, .inr (3, [.ref a0, .ref a1, .ref a2, .ref a3, .ref a4, .ref a5, .ref a6, .int 0, .ref a7, .ref a8, .ref a9, .ref a10, .ref a11, .int 0]))] sz)) 3 18 (va_A [(h0, .inr (5, [.ref s0, .ref de, .ref kl, .ref tl, .ref cu, .ref hk, .ref ca, .int 0, .int 0, .int (-1), .int 0, .int 0])), (kl, .inr (2, [.ref kx, .ref ky, .int 0])), (tl, .inr (4, [.ref tx, .ref ty, .int 1])), (s0, .inr (3, [.ref a0, .ref a1, .ref a2, .ref a3, .ref a4, .ref a5, .ref a6, .int 0, .ref a7, .ref a8, .ref a9, .ref a10, .ref a11, .int 0]))] sz) := by
  refine vx_ofW (cc := cX5_proxy) (maxL := 3) (ret := (some .int)) (by decide) rfl ?_
  intro p e s m args below meth c s₁ B hml htab hv
  obtain ⟨rfl, hsz, hP, hK, hD0, hE⟩ := hv
  have hx := B.exec
  have hb := B.bytes
  have hr := B.returns
  have ht : ∀ w ∈ xb, w.before _ s = true := fun w h => atoms_spec (ws := xw yX5_proxy cX5_proxy 3 (some .int)) B.pre w (List.mem_cons_of_mem _ h)
  have hown : s.vm.findClass RX5 = some m.cls := findClass_of_methodNamed B.named
  have hlocks := B.notSynchronized
  subst hsz
  have hAb := x_Ab hD0 hE.1
  have hD := hD0.self (sz := s.heap.size)
  generalize hAe : va_A [(h0, .inr (5, [.ref s0, .ref de, .ref kl, .ref tl, .ref cu, .ref hk, .ref ca, .int 0, .int 0, .int (-1), .int 0, .int 0])), (kl, .inr (2, [.ref kx, .ref ky, .int 0])), (tl, .inr (4, [.ref tx, .ref ty, .int 1])), (s0, .inr (3, [.ref a0, .ref a1, .ref a2, .ref a3, .ref a4, .ref a5, .ref a6, .int 0, .ref a7, .ref a8, .ref a9, .ref a10, .ref a11, .int 0]))] s.heap.size = A at hD hAb ⊢
  have hA : ∀ q : Nat, s.heap.size ≤ q → A q := fun q h => by rw [← hAe]; exact Or.inr h
  have hS : va_S A s.heap s.heap [] := va_S.rf
  have hP : va_P D vwCl [(h0, .inr (5, [.ref s0, .ref de, .ref kl, .ref tl, .ref cu, .ref hk, .ref ca, .int 0, .int 0, .int (-1), .int 0, .int 0])), (kl, .inr (2, [.ref kx, .ref ky, .int 0])), (tl, .inr (4, [.ref tx, .ref ty, .int 1])), (s0, .inr (3, [.ref a0, .ref a1, .ref a2, .ref a3, .ref a4, .ref a5, .ref a6, .int 0, .ref a7, .ref a8, .ref a9, .ref a10, .ref a11, .int 0]))] s.heap := hP
  have hl := lv_entry ([.ref h0, .int p0, .int p1]) (n := 3) (Nat.le_of_ble_eq_true rfl)
  rw [lg_entry_eq]
  generalize (lg_sl ([.ref h0, .int p0, .int p1]) ++ List.replicate (3 - (lg_sl ([.ref h0, .int p0, .int p1])).length) Slot.unset).toArray = ls at hl ⊢
  have hl : lv_has ls 3 [(0, .ref h0), (1, .int p0), (2, .int p1)] := hl
  refine lv_aload_n hx hb dX5_proxy_0 rfl (lv_at hl 0 rfl) ?_
  have hPc := hP.sub (ws' := [(h0, .inr (5, [.ref s0, .ref de, .ref kl, .ref tl, .ref cu, .ref hk, .ref ca, .int 0, .int 0, .int (-1), .int 0, .int 0])), (kl, .inr (2, [.ref kx, .ref ky, .int 0])), (tl, .inr (4, [.ref tx, .ref ty, .int 1]))]) [0, 1, 2] rfl
  have hDc := hD.sub (ws' := [(h0, .inr (5, [.ref s0, .ref de, .ref kl, .ref tl, .ref cu, .ref hk, .ref ca, .int 0, .int 0, .int (-1), .int 0, .int 0])), (kl, .inr (2, [.ref kx, .ref ky, .int 0])), (tl, .inr (4, [.ref tx, .ref ty, .int 1]))]) [0, 1, 2] (by decide) rfl
  have hFc := va_free (wc := [(h0, .inr (5, [.ref s0, .ref de, .ref kl, .ref tl, .ref cu, .ref hk, .ref ca, .int 0, .int 0, .int (-1), .int 0, .int 0])), (kl, .inr (2, [.ref kx, .ref ky, .int 0])), (tl, .inr (4, [.ref tx, .ref ty, .int 1]))]) hD hS hA [0, 1, 2] rfl
  refine va_callv (va_runV (As := []) (rest := []) ⟨hx, hb, hml, hown, ht⟩ (k5_begin l D C b0 s.heap.size h0 s0 de kl tl cu hk ca kx ky tx ty) (cwV 0 ht (xg_V m_281 m_282 m_283 m_240 m_162) rfl rfl rfl (by decide +kernel) ⟨Nat.le_of_ble_eq_true rfl, Nat.le_of_ble_eq_true rfl⟩) ⟨xPc_bl, va_recv hK hPc (ci := 5) (q0 := 0) rfl rfl, xPc_at hPc hK hDc hE hS hAb⟩ rfl rfl hl.1 rfl (lv_room (Nat.le_of_ble_eq_true rfl)) dX5_proxy_1 ⟨(by decide), (by decide)⟩) hS (fun q _ h => hFc q h) hFc (fun u_1 t H1 locs ht1 hvm hw hB hz1 hk1 hS => ?_)
  obtain ⟨hP1, hD1⟩ := hB
  rw [ht1] at hP1
  try dsimp only at hw
  obtain ⟨hP, hD⟩ := va_join (wr := [(s0, .inr (3, [.ref a0, .ref a1, .ref a2, .ref a3, .ref a4, .ref a5, .ref a6, .int 0, .ref a7, .ref a8, .ref a9, .ref a10, .ref a11, .int 0]))]) (w1 := [(h0, .inr (5, [.ref s0, .ref de, .ref kl, .ref tl, .ref cu, .ref hk, .ref ca, .int 0, .int 0, .int (-1), .int 0, .int 0])), (kl, .inr (2, [.ref kx, .ref ky, .int 0])), (tl, .inr (4, [.ref tx, .ref ty, .int 2]))]) hP hD [0, 1, 2] [3] rfl rfl (by decide) (by decide) hk1 hFc hP1 hD1
  generalize H1 = H at hP hS ⊢
  have hP : va_P D vwCl [(s0, .inr (3, [.ref a0, .ref a1, .ref a2, .ref a3, .ref a4, .ref a5, .ref a6, .int 0, .ref a7, .ref a8, .ref a9, .ref a10, .ref a11, .int 0])), (h0, .inr (5, [.ref s0, .ref de, .ref kl, .ref tl, .ref cu, .ref hk, .ref ca, .int 0, .int 0, .int (-1), .int 0, .int 0])), (kl, .inr (2, [.ref kx, .ref ky, .int 0])), (tl, .inr (4, [.ref tx, .ref ty, .int 2]))] H := hP
  have hD : va_D A [(s0, .inr (3, [.ref a0, .ref a1, .ref a2, .ref a3, .ref a4, .ref a5, .ref a6, .int 0, .ref a7, .ref a8, .ref a9, .ref a10, .ref a11, .int 0])), (h0, .inr (5, [.ref s0, .ref de, .ref kl, .ref tl, .ref cu, .ref hk, .ref ca, .int 0, .int 0, .int (-1), .int 0, .int 0])), (kl, .inr (2, [.ref kx, .ref ky, .int 0])), (tl, .inr (4, [.ref tx, .ref ty, .int 2]))] := hD
  have hq_1 := hw
  refine lv_aload_n hx hb dX5_proxy_4 rfl (lv_at hl 0 rfl) ?_
  refine lv_iload_n hx hb dX5_proxy_5 rfl (lv_at hl 1 rfl) ?_
  have hPc := hP.sub (ws' := [(h0, .inr (5, [.ref s0, .ref de, .ref kl, .ref tl, .ref cu, .ref hk, .ref ca, .int 0, .int 0, .int (-1), .int 0, .int 0])), (s0, .inr (3, [.ref a0, .ref a1, .ref a2, .ref a3, .ref a4, .ref a5, .ref a6, .int 0, .ref a7, .ref a8, .ref a9, .ref a10, .ref a11, .int 0]))]) [1, 0] rfl
  have hDc := hD.sub (ws' := [(h0, .inr (5, [.ref s0, .ref de, .ref kl, .ref tl, .ref cu, .ref hk, .ref ca, .int 0, .int 0, .int (-1), .int 0, .int 0])), (s0, .inr (3, [.ref a0, .ref a1, .ref a2, .ref a3, .ref a4, .ref a5, .ref a6, .int 0, .ref a7, .ref a8, .ref a9, .ref a10, .ref a11, .int 0]))]) [1, 0] (by decide) rfl
  have hFc := va_free (wc := [(h0, .inr (5, [.ref s0, .ref de, .ref kl, .ref tl, .ref cu, .ref hk, .ref ca, .int 0, .int 0, .int (-1), .int 0, .int 0])), (s0, .inr (3, [.ref a0, .ref a1, .ref a2, .ref a3, .ref a4, .ref a5, .ref a6, .int 0, .ref a7, .ref a8, .ref a9, .ref a10, .ref a11, .int 0]))]) hD hS hA [1, 0] rfl
  refine vx_callv (vx_runV (As := [.int p0]) (rest := []) ⟨hx, hb, hml, hown, ht⟩ (k5_requireObject l hl0 D C b0 H.size h0 s0 de kl tl cu hk ca a0 a1 a2 a3 a4 a5 a6 a7 a8 a9 a10 a11 p0) (cwV 1 ht (xg_V m_237 m_238 m_239 m_240 m_163) rfl rfl rfl (by decide +kernel) ⟨Nat.le_of_ble_eq_true rfl, Nat.le_of_ble_eq_true rfl⟩) ⟨xPc_bl, va_recv hK hPc (ci := 5) (q0 := 0) rfl rfl, xPc_at hPc hK hDc hE hS hAb⟩ rfl rfl hl.1 rfl (lv_room (Nat.le_of_ble_eq_true rfl)) dX5_proxy_6 ⟨(by decide), (by decide)⟩) hS (fun q _ h => hFc q h) hFc (fun q _ h => hFc q h) (fun E ce q9 u9 t9 H9 locs9 e9 v9 p9 b9 z9 k9 hS9 hc9 hn9 hf9 => ?_) (fun u_2 t H1 locs ht1 hvm hw hB hz1 hk1 hS => ?_)
  · skip
    obtain rfl := b9
    exact vx_out (mc := 3) (ms := 18) (fun x hx => (htab x hx).elim) hlocks hc9 hn9 hf9 (fun t ht1 hW1 => ⟨(), by first | exact p9 | trivial | assumption | (simp_all; done), rfl, hS9.F ht1⟩) hS9.2.2 (by decide) (by decide)
  · exact hw.elim
set_option maxHeartbeats 4000000 in
set_option maxRecDepth 100000 in
theorem k5_get (l : Launch) (hl0 : l.stackTraces = false) (D : va_G) (C : Nat → ClassId) (b0 sz : Nat) (h0 : Nat) (s0 : Nat) (de : Nat) (kl : Nat) (tl : Nat) (cu : Nat) (hk : Nat) (ca : Nat) (kx : Nat) (ky : Nat) (tx : Nat) (ty : Nat) (a0 : Nat) (a1 : Nat) (a2 : Nat) (a3 : Nat) (a4 : Nat) (a5 : Nat) (a6 : Nat) (a7 : Nat) (a8 : Nat) (a9 : Nat) (a10 : Nat) (a11 : Nat) (p0 : Int32) (p1 : Int32) (p2 : Int32) (p3 : Int32) : vx_Met l yX5_get (xw yX5_get cX5_get 5 (some .int)) ({ frames := 48, cells := 3, slots := 18, locals := 900 }) (xPc D C b0 [.ref h0, .int p0, .int p1, .int p2, .int p3] [(h0, .inr (5, [.ref s0, .ref de, .ref kl, .ref tl, .ref cu, .ref hk, .ref ca, .int 0, .int 0, .int (-1), .int 0, .int 0])), (kl, .inr (2, [.ref kx, .ref ky, .int 0])), (tl, .inr (4, [.ref tx, .ref ty, .int 1])), (s0, .inr (3, [.ref a0, .ref a1, .ref a2, .ref a3, .ref a4, .ref a5, .ref a6, .int 0, .ref a7, .ref a8, .ref a9, .ref a10, .ref a11, .int 0]))] sz) (va_Qi (fun (r : Int32) (u : xS) => False) (xBw D (va_A [(h0, .inr (5, [.ref s0, .ref de, .ref kl, .ref tl, .ref cu, .ref hk, .ref ca, .int 0, .int 0, .int (-1), .int 0, .int 0])), (kl, .inr (2, [.ref kx, .ref ky, .int 0])), (tl, .inr (4, [.ref tx, .ref ty, .int 1])), (s0, .inr (3, [.ref a0, .ref a1, .ref a2, .ref a3, .ref a4, .ref a5, .ref a6, .int 0, .ref a7, .ref a8, .ref a9, .ref a10, .ref a11, .int 0]))] sz) (fun u => [])) (va_A [(h0, .inr (5, [.ref s0, .ref de, .ref kl, .ref tl, .ref cu, .ref hk, .ref ca, .int 0, .int 0, .int (-1), .int 0, .int 0])), (kl, .inr (2, [.ref kx, .ref ky, .int 0])), (tl, .inr (4, [.ref tx, .ref ty, .int 1])), (s0, .inr (3, [.ref a0, .ref a1, .ref a2, .ref a3, .ref a4, .ref a5, .ref a6, .int 0, .ref a7, .ref a8, .ref a9, .ref a10, .ref a11, .int 0]))] sz)) (xX xIAE (True) (va_A [(h0, .inr (5, [.ref s0, .ref de, .ref kl, .ref tl, .ref cu, .ref hk, .ref ca, .int 0, .int 0, .int (-1), .int 0, .int 0])), (kl, .inr (2, [.ref kx, .ref ky, .int 0])), (tl, .inr (4, [.ref tx, .ref ty, .int 1])), (s0, .inr (3, [.ref a0, .ref a1, .ref a2, .ref a3, .ref a4, .ref a5, .ref a6, .int 0, .ref a7, .ref a8, .ref a9, .ref a10, .ref a11, .int 0]))] sz)) 3 18 (va_A [(h0, .inr (5, [.ref s0, .ref de, .ref kl, .ref tl, .ref cu, .ref hk, .ref ca, .int 0, .int 0, .int (-1), .int 0, .int 0])), (kl, .inr (2, [.ref kx, .ref ky, .int 0])), (tl, .inr (4, [.ref tx, .ref ty, .int 1])), (s0, .inr (3, [.ref a0, .ref a1, .ref a2, .ref a3, .ref a4, .ref a5, .ref a6, .int 0, .ref a7, .ref a8, .ref a9, .ref a10, .ref a11, .int 0]))] sz) := by
  refine vx_ofW (cc := cX5_get) (maxL := 5) (ret := (some .int)) (by decide) rfl ?_
  intro p e s m args below meth c s₁ B hml htab hv
  obtain ⟨rfl, hsz, hP, hK, hD0, hE⟩ := hv
  have hx := B.exec
  have hb := B.bytes
  have hr := B.returns
  have ht : ∀ w ∈ xb, w.before _ s = true := fun w h => atoms_spec (ws := xw yX5_get cX5_get 5 (some .int)) B.pre w (List.mem_cons_of_mem _ h)
  have hown : s.vm.findClass RX5 = some m.cls := findClass_of_methodNamed B.named
  have hlocks := B.notSynchronized
  subst hsz
  have hAb := x_Ab hD0 hE.1
  have hD := hD0.self (sz := s.heap.size)
  generalize hAe : va_A [(h0, .inr (5, [.ref s0, .ref de, .ref kl, .ref tl, .ref cu, .ref hk, .ref ca, .int 0, .int 0, .int (-1), .int 0, .int 0])), (kl, .inr (2, [.ref kx, .ref ky, .int 0])), (tl, .inr (4, [.ref tx, .ref ty, .int 1])), (s0, .inr (3, [.ref a0, .ref a1, .ref a2, .ref a3, .ref a4, .ref a5, .ref a6, .int 0, .ref a7, .ref a8, .ref a9, .ref a10, .ref a11, .int 0]))] s.heap.size = A at hD hAb ⊢
  have hA : ∀ q : Nat, s.heap.size ≤ q → A q := fun q h => by rw [← hAe]; exact Or.inr h
  have hS : va_S A s.heap s.heap [] := va_S.rf
  have hP : va_P D vwCl [(h0, .inr (5, [.ref s0, .ref de, .ref kl, .ref tl, .ref cu, .ref hk, .ref ca, .int 0, .int 0, .int (-1), .int 0, .int 0])), (kl, .inr (2, [.ref kx, .ref ky, .int 0])), (tl, .inr (4, [.ref tx, .ref ty, .int 1])), (s0, .inr (3, [.ref a0, .ref a1, .ref a2, .ref a3, .ref a4, .ref a5, .ref a6, .int 0, .ref a7, .ref a8, .ref a9, .ref a10, .ref a11, .int 0]))] s.heap := hP
  have hl := lv_entry ([.ref h0, .int p0, .int p1, .int p2, .int p3]) (n := 5) (Nat.le_of_ble_eq_true rfl)
  rw [lg_entry_eq]
  generalize (lg_sl ([.ref h0, .int p0, .int p1, .int p2, .int p3]) ++ List.replicate (5 - (lg_sl ([.ref h0, .int p0, .int p1, .int p2, .int p3])).length) Slot.unset).toArray = ls at hl ⊢
  have hl : lv_has ls 5 [(0, .ref h0), (1, .int p0), (2, .int p1), (3, .int p2), (4, .int p3)] := hl
  refine lv_aload_n hx hb dX5_get_0 rfl (lv_at hl 0 rfl) ?_
  have hPc := hP.sub (ws' := [(h0, .inr (5, [.ref s0, .ref de, .ref kl, .ref tl, .ref cu, .ref hk, .ref ca, .int 0, .int 0, .int (-1), .int 0, .int 0])), (kl, .inr (2, [.ref kx, .ref ky, .int 0])), (tl, .inr (4, [.ref tx, .ref ty, .int 1]))]) [0, 1, 2] rfl
  have hDc := hD.sub (ws' := [(h0, .inr (5, [.ref s0, .ref de, .ref kl, .ref tl, .ref cu, .ref hk, .ref ca, .int 0, .int 0, .int (-1), .int 0, .int 0])), (kl, .inr (2, [.ref kx, .ref ky, .int 0])), (tl, .inr (4, [.ref tx, .ref ty, .int 1]))]) [0, 1, 2] (by decide) rfl
  have hFc := va_free (wc := [(h0, .inr (5, [.ref s0, .ref de, .ref kl, .ref tl, .ref cu, .ref hk, .ref ca, .int 0, .int 0, .int (-1), .int 0, .int 0])), (kl, .inr (2, [.ref kx, .ref ky, .int 0])), (tl, .inr (4, [.ref tx, .ref ty, .int 1]))]) hD hS hA [0, 1, 2] rfl
  refine va_callv (va_runV (As := []) (rest := []) ⟨hx, hb, hml, hown, ht⟩ (k5_begin l D C b0 s.heap.size h0 s0 de kl tl cu hk ca kx ky tx ty) (cwV 0 ht (xg_V m_281 m_282 m_283 m_240 m_162) rfl rfl rfl (by decide +kernel) ⟨Nat.le_of_ble_eq_true rfl, Nat.le_of_ble_eq_true rfl⟩) ⟨xPc_bl, va_recv hK hPc (ci := 5) (q0 := 0) rfl rfl, xPc_at hPc hK hDc hE hS hAb⟩ rfl rfl hl.1 rfl (lv_room (Nat.le_of_ble_eq_true rfl)) dX5_get_1 ⟨(by decide), (by decide)⟩) hS (fun q _ h => hFc q h) hFc (fun u_1 t H1 locs ht1 hvm hw hB hz1 hk1 hS => ?_)
  obtain ⟨hP1, hD1⟩ := hB
  rw [ht1] at hP1
  try dsimp only at hw
  obtain ⟨hP, hD⟩ := va_join (wr := [(s0, .inr (3, [.ref a0, .ref a1, .ref a2, .ref a3, .ref a4, .ref a5, .ref a6, .int 0, .ref a7, .ref a8, .ref a9, .ref a10, .ref a11, .int 0]))]) (w1 := [(h0, .inr (5, [.ref s0, .ref de, .ref kl, .ref tl, .ref cu, .ref hk, .ref ca, .int 0, .int 0, .int (-1), .int 0, .int 0])), (kl, .inr (2, [.ref kx, .ref ky, .int 0])), (tl, .inr (4, [.ref tx, .ref ty, .int 2]))]) hP hD [0, 1, 2] [3] rfl rfl (by decide) (by decide) hk1 hFc hP1 hD1
  generalize H1 = H at hP hS ⊢
  have hP : va_P D vwCl [(s0, .inr (3, [.ref a0, .ref a1, .ref a2, .ref a3, .ref a4, .ref a5, .ref a6, .int 0, .ref a7, .ref a8, .ref a9, .ref a10, .ref a11, .int 0])), (h0, .inr (5, [.ref s0, .ref de, .ref kl, .ref tl, .ref cu, .ref hk, .ref ca, .int 0, .int 0, .int (-1), .int 0, .int 0])), (kl, .inr (2, [.ref kx, .ref ky, .int 0])), (tl, .inr (4, [.ref tx, .ref ty, .int 2]))] H := hP
  have hD : va_D A [(s0, .inr (3, [.ref a0, .ref a1, .ref a2, .ref a3, .ref a4, .ref a5, .ref a6, .int 0, .ref a7, .ref a8, .ref a9, .ref a10, .ref a11, .int 0])), (h0, .inr (5, [.ref s0, .ref de, .ref kl, .ref tl, .ref cu, .ref hk, .ref ca, .int 0, .int 0, .int (-1), .int 0, .int 0])), (kl, .inr (2, [.ref kx, .ref ky, .int 0])), (tl, .inr (4, [.ref tx, .ref ty, .int 2]))] := hD
  have hq_1 := hw
  refine lv_aload_n hx hb dX5_get_4 rfl (lv_at hl 0 rfl) ?_
  refine lv_iload_n hx hb dX5_get_5 rfl (lv_at hl 1 rfl) ?_
  have hPc := hP.sub (ws' := [(h0, .inr (5, [.ref s0, .ref de, .ref kl, .ref tl, .ref cu, .ref hk, .ref ca, .int 0, .int 0, .int (-1), .int 0, .int 0])), (s0, .inr (3, [.ref a0, .ref a1, .ref a2, .ref a3, .ref a4, .ref a5, .ref a6, .int 0, .ref a7, .ref a8, .ref a9, .ref a10, .ref a11, .int 0]))]) [1, 0] rfl
  have hDc := hD.sub (ws' := [(h0, .inr (5, [.ref s0, .ref de, .ref kl, .ref tl, .ref cu, .ref hk, .ref ca, .int 0, .int 0, .int (-1), .int 0, .int 0])), (s0, .inr (3, [.ref a0, .ref a1, .ref a2, .ref a3, .ref a4, .ref a5, .ref a6, .int 0, .ref a7, .ref a8, .ref a9, .ref a10, .ref a11, .int 0]))]) [1, 0] (by decide) rfl
  have hFc := va_free (wc := [(h0, .inr (5, [.ref s0, .ref de, .ref kl, .ref tl, .ref cu, .ref hk, .ref ca, .int 0, .int 0, .int (-1), .int 0, .int 0])), (s0, .inr (3, [.ref a0, .ref a1, .ref a2, .ref a3, .ref a4, .ref a5, .ref a6, .int 0, .ref a7, .ref a8, .ref a9, .ref a10, .ref a11, .int 0]))]) hD hS hA [1, 0] rfl
  refine vx_callv (vx_runV (As := [.int p0]) (rest := []) ⟨hx, hb, hml, hown, ht⟩ (k5_requireObject l hl0 D C b0 H.size h0 s0 de kl tl cu hk ca a0 a1 a2 a3 a4 a5 a6 a7 a8 a9 a10 a11 p0) (cwV 1 ht (xg_V m_237 m_238 m_239 m_240 m_163) rfl rfl rfl (by decide +kernel) ⟨Nat.le_of_ble_eq_true rfl, Nat.le_of_ble_eq_true rfl⟩) ⟨xPc_bl, va_recv hK hPc (ci := 5) (q0 := 0) rfl rfl, xPc_at hPc hK hDc hE hS hAb⟩ rfl rfl hl.1 rfl (lv_room (Nat.le_of_ble_eq_true rfl)) dX5_get_6 ⟨(by decide), (by decide)⟩) hS (fun q _ h => hFc q h) hFc (fun q _ h => hFc q h) (fun E ce q9 u9 t9 H9 locs9 e9 v9 p9 b9 z9 k9 hS9 hc9 hn9 hf9 => ?_) (fun u_2 t H1 locs ht1 hvm hw hB hz1 hk1 hS => ?_)
  · skip
    obtain rfl := b9
    exact vx_out (mc := 3) (ms := 18) (fun x hx => (htab x hx).elim) hlocks hc9 hn9 hf9 (fun t ht1 hW1 => ⟨(), by first | exact p9 | trivial | assumption | (simp_all; done), rfl, hS9.F ht1⟩) hS9.2.2 (by decide) (by decide)
  · exact hw.elim
set_option maxHeartbeats 4000000 in
set_option maxRecDepth 100000 in
theorem k5_set (l : Launch) (hl0 : l.stackTraces = false) (D : va_G) (C : Nat → ClassId) (b0 sz : Nat) (h0 : Nat) (s0 : Nat) (de : Nat) (kl : Nat) (tl : Nat) (cu : Nat) (hk : Nat) (ca : Nat) (kx : Nat) (ky : Nat) (tx : Nat) (ty : Nat) (a0 : Nat) (a1 : Nat) (a2 : Nat) (a3 : Nat) (a4 : Nat) (a5 : Nat) (a6 : Nat) (a7 : Nat) (a8 : Nat) (a9 : Nat) (a10 : Nat) (a11 : Nat) (p0 : Int32) (p1 : Int32) (p2 : Int32) (p3 : Int32) (p4 : Int32) : vx_Met l yX5_set (xw yX5_set cX5_set 6 (some .boolean)) ({ frames := 48, cells := 3, slots := 18, locals := 900 }) (xPc D C b0 [.ref h0, .int p0, .int p1, .int p2, .int p3, .int p4] [(h0, .inr (5, [.ref s0, .ref de, .ref kl, .ref tl, .ref cu, .ref hk, .ref ca, .int 0, .int 0, .int (-1), .int 0, .int 0])), (kl, .inr (2, [.ref kx, .ref ky, .int 0])), (tl, .inr (4, [.ref tx, .ref ty, .int 1])), (s0, .inr (3, [.ref a0, .ref a1, .ref a2, .ref a3, .ref a4, .ref a5, .ref a6, .int 0, .ref a7, .ref a8, .ref a9, .ref a10, .ref a11, .int 0]))] sz) (va_Qi (fun (r : Int32) (u : xS) => False) (xBw D (va_A [(h0, .inr (5, [.ref s0, .ref de, .ref kl, .ref tl, .ref cu, .ref hk, .ref ca, .int 0, .int 0, .int (-1), .int 0, .int 0])), (kl, .inr (2, [.ref kx, .ref ky, .int 0])), (tl, .inr (4, [.ref tx, .ref ty, .int 1])), (s0, .inr (3, [.ref a0, .ref a1, .ref a2, .ref a3, .ref a4, .ref a5, .ref a6, .int 0, .ref a7, .ref a8, .ref a9, .ref a10, .ref a11, .int 0]))] sz) (fun u => [])) (va_A [(h0, .inr (5, [.ref s0, .ref de, .ref kl, .ref tl, .ref cu, .ref hk, .ref ca, .int 0, .int 0, .int (-1), .int 0, .int 0])), (kl, .inr (2, [.ref kx, .ref ky, .int 0])), (tl, .inr (4, [.ref tx, .ref ty, .int 1])), (s0, .inr (3, [.ref a0, .ref a1, .ref a2, .ref a3, .ref a4, .ref a5, .ref a6, .int 0, .ref a7, .ref a8, .ref a9, .ref a10, .ref a11, .int 0]))] sz)) (xX xIAE (True) (va_A [(h0, .inr (5, [.ref s0, .ref de, .ref kl, .ref tl, .ref cu, .ref hk, .ref ca, .int 0, .int 0, .int (-1), .int 0, .int 0])), (kl, .inr (2, [.ref kx, .ref ky, .int 0])), (tl, .inr (4, [.ref tx, .ref ty, .int 1])), (s0, .inr (3, [.ref a0, .ref a1, .ref a2, .ref a3, .ref a4, .ref a5, .ref a6, .int 0, .ref a7, .ref a8, .ref a9, .ref a10, .ref a11, .int 0]))] sz)) 3 18 (va_A [(h0, .inr (5, [.ref s0, .ref de, .ref kl, .ref tl, .ref cu, .ref hk, .ref ca, .int 0, .int 0, .int (-1), .int 0, .int 0])), (kl, .inr (2, [.ref kx, .ref ky, .int 0])), (tl, .inr (4, [.ref tx, .ref ty, .int 1])), (s0, .inr (3, [.ref a0, .ref a1, .ref a2, .ref a3, .ref a4, .ref a5, .ref a6, .int 0, .ref a7, .ref a8, .ref a9, .ref a10, .ref a11, .int 0]))] sz) := by
  refine vx_ofW (cc := cX5_set) (maxL := 6) (ret := (some .boolean)) (by decide) rfl ?_
  intro p e s m args below meth c s₁ B hml htab hv
  obtain ⟨rfl, hsz, hP, hK, hD0, hE⟩ := hv
  have hx := B.exec
  have hb := B.bytes
  have hr := B.returns
  have ht : ∀ w ∈ xb, w.before _ s = true := fun w h => atoms_spec (ws := xw yX5_set cX5_set 6 (some .boolean)) B.pre w (List.mem_cons_of_mem _ h)
  have hown : s.vm.findClass RX5 = some m.cls := findClass_of_methodNamed B.named
  have hlocks := B.notSynchronized
  subst hsz
  have hAb := x_Ab hD0 hE.1
  have hD := hD0.self (sz := s.heap.size)
  generalize hAe : va_A [(h0, .inr (5, [.ref s0, .ref de, .ref kl, .ref tl, .ref cu, .ref hk, .ref ca, .int 0, .int 0, .int (-1), .int 0, .int 0])), (kl, .inr (2, [.ref kx, .ref ky, .int 0])), (tl, .inr (4, [.ref tx, .ref ty, .int 1])), (s0, .inr (3, [.ref a0, .ref a1, .ref a2, .ref a3, .ref a4, .ref a5, .ref a6, .int 0, .ref a7, .ref a8, .ref a9, .ref a10, .ref a11, .int 0]))] s.heap.size = A at hD hAb ⊢
  have hA : ∀ q : Nat, s.heap.size ≤ q → A q := fun q h => by rw [← hAe]; exact Or.inr h
  have hS : va_S A s.heap s.heap [] := va_S.rf
  have hP : va_P D vwCl [(h0, .inr (5, [.ref s0, .ref de, .ref kl, .ref tl, .ref cu, .ref hk, .ref ca, .int 0, .int 0, .int (-1), .int 0, .int 0])), (kl, .inr (2, [.ref kx, .ref ky, .int 0])), (tl, .inr (4, [.ref tx, .ref ty, .int 1])), (s0, .inr (3, [.ref a0, .ref a1, .ref a2, .ref a3, .ref a4, .ref a5, .ref a6, .int 0, .ref a7, .ref a8, .ref a9, .ref a10, .ref a11, .int 0]))] s.heap := hP
  have hl := lv_entry ([.ref h0, .int p0, .int p1, .int p2, .int p3, .int p4]) (n := 6) (Nat.le_of_ble_eq_true rfl)
  rw [lg_entry_eq]
  generalize (lg_sl ([.ref h0, .int p0, .int p1, .int p2, .int p3, .int p4]) ++ List.replicate (6 - (lg_sl ([.ref h0, .int p0, .int p1, .int p2, .int p3, .int p4])).length) Slot.unset).toArray = ls at hl ⊢
  have hl : lv_has ls 6 [(0, .ref h0), (1, .int p0), (2, .int p1), (3, .int p2), (4, .int p3), (5, .int p4)] := hl
  refine lv_aload_n hx hb dX5_set_0 rfl (lv_at hl 0 rfl) ?_
  have hPc := hP.sub (ws' := [(h0, .inr (5, [.ref s0, .ref de, .ref kl, .ref tl, .ref cu, .ref hk, .ref ca, .int 0, .int 0, .int (-1), .int 0, .int 0])), (kl, .inr (2, [.ref kx, .ref ky, .int 0])), (tl, .inr (4, [.ref tx, .ref ty, .int 1]))]) [0, 1, 2] rfl
  have hDc := hD.sub (ws' := [(h0, .inr (5, [.ref s0, .ref de, .ref kl, .ref tl, .ref cu, .ref hk, .ref ca, .int 0, .int 0, .int (-1), .int 0, .int 0])), (kl, .inr (2, [.ref kx, .ref ky, .int 0])), (tl, .inr (4, [.ref tx, .ref ty, .int 1]))]) [0, 1, 2] (by decide) rfl
  have hFc := va_free (wc := [(h0, .inr (5, [.ref s0, .ref de, .ref kl, .ref tl, .ref cu, .ref hk, .ref ca, .int 0, .int 0, .int (-1), .int 0, .int 0])), (kl, .inr (2, [.ref kx, .ref ky, .int 0])), (tl, .inr (4, [.ref tx, .ref ty, .int 1]))]) hD hS hA [0, 1, 2] rfl
  refine va_callv (va_runV (As := []) (rest := []) ⟨hx, hb, hml, hown, ht⟩ (k5_begin l D C b0 s.heap.size h0 s0 de kl tl cu hk ca kx ky tx ty) (cwV 0 ht (xg_V m_281 m_282 m_283 m_240 m_162) rfl rfl rfl (by decide +kernel) ⟨Nat.le_of_ble_eq_true rfl, Nat.le_of_ble_eq_true rfl⟩) ⟨xPc_bl, va_recv hK hPc (ci := 5) (q0 := 0) rfl rfl, xPc_at hPc hK hDc hE hS hAb⟩ rfl rfl hl.1 rfl (lv_room (Nat.le_of_ble_eq_true rfl)) dX5_set_1 ⟨(by decide), (by decide)⟩) hS (fun q _ h => hFc q h) hFc (fun u_1 t H1 locs ht1 hvm hw hB hz1 hk1 hS => ?_)
  obtain ⟨hP1, hD1⟩ := hB
  rw [ht1] at hP1
  try dsimp only at hw
  obtain ⟨hP, hD⟩ := va_join (wr := [(s0, .inr (3, [.ref a0, .ref a1, .ref a2, .ref a3, .ref a4, .ref a5, .ref a6, .int 0, .ref a7, .ref a8, .ref a9, .ref a10, .ref a11, .int 0]))]) (w1 := [(h0, .inr (5, [.ref s0, .ref de, .ref kl, .ref tl, .ref cu, .ref hk, .ref ca, .int 0, .int 0, .int (-1), .int 0, .int 0])), (kl, .inr (2, [.ref kx, .ref ky, .int 0])), (tl, .inr (4, [.ref tx, .ref ty, .int 2]))]) hP hD [0, 1, 2] [3] rfl rfl (by decide) (by decide) hk1 hFc hP1 hD1
  generalize H1 = H at hP hS ⊢
  have hP : va_P D vwCl [(s0, .inr (3, [.ref a0, .ref a1, .ref a2, .ref a3, .ref a4, .ref a5, .ref a6, .int 0, .ref a7, .ref a8, .ref a9, .ref a10, .ref a11, .int 0])), (h0, .inr (5, [.ref s0, .ref de, .ref kl, .ref tl, .ref cu, .ref hk, .ref ca, .int 0, .int 0, .int (-1), .int 0, .int 0])), (kl, .inr (2, [.ref kx, .ref ky, .int 0])), (tl, .inr (4, [.ref tx, .ref ty, .int 2]))] H := hP
  have hD : va_D A [(s0, .inr (3, [.ref a0, .ref a1, .ref a2, .ref a3, .ref a4, .ref a5, .ref a6, .int 0, .ref a7, .ref a8, .ref a9, .ref a10, .ref a11, .int 0])), (h0, .inr (5, [.ref s0, .ref de, .ref kl, .ref tl, .ref cu, .ref hk, .ref ca, .int 0, .int 0, .int (-1), .int 0, .int 0])), (kl, .inr (2, [.ref kx, .ref ky, .int 0])), (tl, .inr (4, [.ref tx, .ref ty, .int 2]))] := hD
  have hq_1 := hw
  refine lv_aload_n hx hb dX5_set_4 rfl (lv_at hl 0 rfl) ?_
  refine lv_iload_n hx hb dX5_set_5 rfl (lv_at hl 1 rfl) ?_
  have hPc := hP.sub (ws' := [(h0, .inr (5, [.ref s0, .ref de, .ref kl, .ref tl, .ref cu, .ref hk, .ref ca, .int 0, .int 0, .int (-1), .int 0, .int 0])), (s0, .inr (3, [.ref a0, .ref a1, .ref a2, .ref a3, .ref a4, .ref a5, .ref a6, .int 0, .ref a7, .ref a8, .ref a9, .ref a10, .ref a11, .int 0]))]) [1, 0] rfl
  have hDc := hD.sub (ws' := [(h0, .inr (5, [.ref s0, .ref de, .ref kl, .ref tl, .ref cu, .ref hk, .ref ca, .int 0, .int 0, .int (-1), .int 0, .int 0])), (s0, .inr (3, [.ref a0, .ref a1, .ref a2, .ref a3, .ref a4, .ref a5, .ref a6, .int 0, .ref a7, .ref a8, .ref a9, .ref a10, .ref a11, .int 0]))]) [1, 0] (by decide) rfl
  have hFc := va_free (wc := [(h0, .inr (5, [.ref s0, .ref de, .ref kl, .ref tl, .ref cu, .ref hk, .ref ca, .int 0, .int 0, .int (-1), .int 0, .int 0])), (s0, .inr (3, [.ref a0, .ref a1, .ref a2, .ref a3, .ref a4, .ref a5, .ref a6, .int 0, .ref a7, .ref a8, .ref a9, .ref a10, .ref a11, .int 0]))]) hD hS hA [1, 0] rfl
  refine vx_callv (vx_runV (As := [.int p0]) (rest := []) ⟨hx, hb, hml, hown, ht⟩ (k5_requireObject l hl0 D C b0 H.size h0 s0 de kl tl cu hk ca a0 a1 a2 a3 a4 a5 a6 a7 a8 a9 a10 a11 p0) (cwV 1 ht (xg_V m_237 m_238 m_239 m_240 m_163) rfl rfl rfl (by decide +kernel) ⟨Nat.le_of_ble_eq_true rfl, Nat.le_of_ble_eq_true rfl⟩) ⟨xPc_bl, va_recv hK hPc (ci := 5) (q0 := 0) rfl rfl, xPc_at hPc hK hDc hE hS hAb⟩ rfl rfl hl.1 rfl (lv_room (Nat.le_of_ble_eq_true rfl)) dX5_set_6 ⟨(by decide), (by decide)⟩) hS (fun q _ h => hFc q h) hFc (fun q _ h => hFc q h) (fun E ce q9 u9 t9 H9 locs9 e9 v9 p9 b9 z9 k9 hS9 hc9 hn9 hf9 => ?_) (fun u_2 t H1 locs ht1 hvm hw hB hz1 hk1 hS => ?_)
  · skip
    obtain rfl := b9
    exact vx_out (mc := 3) (ms := 18) (fun x hx => (htab x hx).elim) hlocks hc9 hn9 hf9 (fun t ht1 hW1 => ⟨(), by first | exact p9 | trivial | assumption | (simp_all; done), rfl, hS9.F ht1⟩) hS9.2.2 (by decide) (by decide)
  · exact hw.elim
set_option maxHeartbeats 4000000 in
set_option maxRecDepth 100000 in
theorem k5_has (l : Launch) (hl0 : l.stackTraces = false) (D : va_G) (C : Nat → ClassId) (b0 sz : Nat) (h0 : Nat) (s0 : Nat) (de : Nat) (kl : Nat) (tl : Nat) (cu : Nat) (hk : Nat) (ca : Nat) (kx : Nat) (ky : Nat) (tx : Nat) (ty : Nat) (a0 : Nat) (a1 : Nat) (a2 : Nat) (a3 : Nat) (a4 : Nat) (a5 : Nat) (a6 : Nat) (a7 : Nat) (a8 : Nat) (a9 : Nat) (a10 : Nat) (a11 : Nat) (p0 : Int32) (p1 : Int32) (p2 : Int32) : vx_Met l yX5_has (xw yX5_has cX5_has 4 (some .boolean)) ({ frames := 48, cells := 3, slots := 18, locals := 900 }) (xPc D C b0 [.ref h0, .int p0, .int p1, .int p2] [(h0, .inr (5, [.ref s0, .ref de, .ref kl, .ref tl, .ref cu, .ref hk, .ref ca, .int 0, .int 0, .int (-1), .int 0, .int 0])), (kl, .inr (2, [.ref kx, .ref ky, .int 0])), (tl, .inr (4, [.ref tx, .ref ty, .int 1])), (s0, .inr (3, [.ref a0, .ref a1, .ref a2, .ref a3, .ref a4, .ref a5, .ref a6, .int 0, .ref a7, .ref a8, .ref a9, .ref a10, .ref a11, .int 0]))] sz) (va_Qi (fun (r : Int32) (u : xS) => False) (xBw D (va_A [(h0, .inr (5, [.ref s0, .ref de, .ref kl, .ref tl, .ref cu, .ref hk, .ref ca, .int 0, .int 0, .int (-1), .int 0, .int 0])), (kl, .inr (2, [.ref kx, .ref ky, .int 0])), (tl, .inr (4, [.ref tx, .ref ty, .int 1])), (s0, .inr (3, [.ref a0, .ref a1, .ref a2, .ref a3, .ref a4, .ref a5, .ref a6, .int 0, .ref a7, .ref a8, .ref a9, .ref a10, .ref a11, .int 0]))] sz) (fun u => [])) (va_A [(h0, .inr (5, [.ref s0, .ref de, .ref kl, .ref tl, .ref cu, .ref hk, .ref ca, .int 0, .int 0, .int (-1), .int 0, .int 0])), (kl, .inr (2, [.ref kx, .ref ky, .int 0])), (tl, .inr (4, [.ref tx, .ref ty, .int 1])), (s0, .inr (3, [.ref a0, .ref a1, .ref a2, .ref a3, .ref a4, .ref a5, .ref a6, .int 0, .ref a7, .ref a8, .ref a9, .ref a10, .ref a11, .int 0]))] sz)) (xX xIAE (True) (va_A [(h0, .inr (5, [.ref s0, .ref de, .ref kl, .ref tl, .ref cu, .ref hk, .ref ca, .int 0, .int 0, .int (-1), .int 0, .int 0])), (kl, .inr (2, [.ref kx, .ref ky, .int 0])), (tl, .inr (4, [.ref tx, .ref ty, .int 1])), (s0, .inr (3, [.ref a0, .ref a1, .ref a2, .ref a3, .ref a4, .ref a5, .ref a6, .int 0, .ref a7, .ref a8, .ref a9, .ref a10, .ref a11, .int 0]))] sz)) 3 18 (va_A [(h0, .inr (5, [.ref s0, .ref de, .ref kl, .ref tl, .ref cu, .ref hk, .ref ca, .int 0, .int 0, .int (-1), .int 0, .int 0])), (kl, .inr (2, [.ref kx, .ref ky, .int 0])), (tl, .inr (4, [.ref tx, .ref ty, .int 1])), (s0, .inr (3, [.ref a0, .ref a1, .ref a2, .ref a3, .ref a4, .ref a5, .ref a6, .int 0, .ref a7, .ref a8, .ref a9, .ref a10, .ref a11, .int 0]))] sz) := by
  refine vx_ofW (cc := cX5_has) (maxL := 4) (ret := (some .boolean)) (by decide) rfl ?_
  intro p e s m args below meth c s₁ B hml htab hv
  obtain ⟨rfl, hsz, hP, hK, hD0, hE⟩ := hv
  have hx := B.exec
  have hb := B.bytes
  have hr := B.returns
  have ht : ∀ w ∈ xb, w.before _ s = true := fun w h => atoms_spec (ws := xw yX5_has cX5_has 4 (some .boolean)) B.pre w (List.mem_cons_of_mem _ h)
  have hown : s.vm.findClass RX5 = some m.cls := findClass_of_methodNamed B.named
  have hlocks := B.notSynchronized
  subst hsz
  have hAb := x_Ab hD0 hE.1
  have hD := hD0.self (sz := s.heap.size)
  generalize hAe : va_A [(h0, .inr (5, [.ref s0, .ref de, .ref kl, .ref tl, .ref cu, .ref hk, .ref ca, .int 0, .int 0, .int (-1), .int 0, .int 0])), (kl, .inr (2, [.ref kx, .ref ky, .int 0])), (tl, .inr (4, [.ref tx, .ref ty, .int 1])), (s0, .inr (3, [.ref a0, .ref a1, .ref a2, .ref a3, .ref a4, .ref a5, .ref a6, .int 0, .ref a7, .ref a8, .ref a9, .ref a10, .ref a11, .int 0]))] s.heap.size = A at hD hAb ⊢
  have hA : ∀ q : Nat, s.heap.size ≤ q → A q := fun q h => by rw [← hAe]; exact Or.inr h
  have hS : va_S A s.heap s.heap [] := va_S.rf
  have hP : va_P D vwCl [(h0, .inr (5, [.ref s0, .ref de, .ref kl, .ref tl, .ref cu, .ref hk, .ref ca, .int 0, .int 0, .int (-1), .int 0, .int 0])), (kl, .inr (2, [.ref kx, .ref ky, .int 0])), (tl, .inr (4, [.ref tx, .ref ty, .int 1])), (s0, .inr (3, [.ref a0, .ref a1, .ref a2, .ref a3, .ref a4, .ref a5, .ref a6, .int 0, .ref a7, .ref a8, .ref a9, .ref a10, .ref a11, .int 0]))] s.heap := hP
  have hl := lv_entry ([.ref h0, .int p0, .int p1, .int p2]) (n := 4) (Nat.le_of_ble_eq_true rfl)
  rw [lg_entry_eq]
  generalize (lg_sl ([.ref h0, .int p0, .int p1, .int p2]) ++ List.replicate (4 - (lg_sl ([.ref h0, .int p0, .int p1, .int p2])).length) Slot.unset).toArray = ls at hl ⊢
  have hl : lv_has ls 4 [(0, .ref h0), (1, .int p0), (2, .int p1), (3, .int p2)] := hl
  refine lv_aload_n hx hb dX5_has_0 rfl (lv_at hl 0 rfl) ?_
  have hPc := hP.sub (ws' := [(h0, .inr (5, [.ref s0, .ref de, .ref kl, .ref tl, .ref cu, .ref hk, .ref ca, .int 0, .int 0, .int (-1), .int 0, .int 0])), (kl, .inr (2, [.ref kx, .ref ky, .int 0])), (tl, .inr (4, [.ref tx, .ref ty, .int 1]))]) [0, 1, 2] rfl
  have hDc := hD.sub (ws' := [(h0, .inr (5, [.ref s0, .ref de, .ref kl, .ref tl, .ref cu, .ref hk, .ref ca, .int 0, .int 0, .int (-1), .int 0, .int 0])), (kl, .inr (2, [.ref kx, .ref ky, .int 0])), (tl, .inr (4, [.ref tx, .ref ty, .int 1]))]) [0, 1, 2] (by decide) rfl
  have hFc := va_free (wc := [(h0, .inr (5, [.ref s0, .ref de, .ref kl, .ref tl, .ref cu, .ref hk, .ref ca, .int 0, .int 0, .int (-1), .int 0, .int 0])), (kl, .inr (2, [.ref kx, .ref ky, .int 0])), (tl, .inr (4, [.ref tx, .ref ty, .int 1]))]) hD hS hA [0, 1, 2] rfl
  refine va_callv (va_runV (As := []) (rest := []) ⟨hx, hb, hml, hown, ht⟩ (k5_begin l D C b0 s.heap.size h0 s0 de kl tl cu hk ca kx ky tx ty) (cwV 0 ht (xg_V m_281 m_282 m_283 m_240 m_162) rfl rfl rfl (by decide +kernel) ⟨Nat.le_of_ble_eq_true rfl, Nat.le_of_ble_eq_true rfl⟩) ⟨xPc_bl, va_recv hK hPc (ci := 5) (q0 := 0) rfl rfl, xPc_at hPc hK hDc hE hS hAb⟩ rfl rfl hl.1 rfl (lv_room (Nat.le_of_ble_eq_true rfl)) dX5_has_1 ⟨(by decide), (by decide)⟩) hS (fun q _ h => hFc q h) hFc (fun u_1 t H1 locs ht1 hvm hw hB hz1 hk1 hS => ?_)
  obtain ⟨hP1, hD1⟩ := hB
  rw [ht1] at hP1
  try dsimp only at hw
  obtain ⟨hP, hD⟩ := va_join (wr := [(s0, .inr (3, [.ref a0, .ref a1, .ref a2, .ref a3, .ref a4, .ref a5, .ref a6, .int 0, .ref a7, .ref a8, .ref a9, .ref a10, .ref a11, .int 0]))]) (w1 := [(h0, .inr (5, [.ref s0, .ref de, .ref kl, .ref tl, .ref cu, .ref hk, .ref ca, .int 0, .int 0, .int (-1), .int 0, .int 0])), (kl, .inr (2, [.ref kx, .ref ky, .int 0])), (tl, .inr (4, [.ref tx, .ref ty, .int 2]))]) hP hD [0, 1, 2] [3] rfl rfl (by decide) (by decide) hk1 hFc hP1 hD1
  generalize H1 = H at hP hS ⊢
  have hP : va_P D vwCl [(s0, .inr (3, [.ref a0, .ref a1, .ref a2, .ref a3, .ref a4, .ref a5, .ref a6, .int 0, .ref a7, .ref a8, .ref a9, .ref a10, .ref a11, .int 0])), (h0, .inr (5, [.ref s0, .ref de, .ref kl, .ref tl, .ref cu, .ref hk, .ref ca, .int 0, .int 0, .int (-1), .int 0, .int 0])), (kl, .inr (2, [.ref kx, .ref ky, .int 0])), (tl, .inr (4, [.ref tx, .ref ty, .int 2]))] H := hP
  have hD : va_D A [(s0, .inr (3, [.ref a0, .ref a1, .ref a2, .ref a3, .ref a4, .ref a5, .ref a6, .int 0, .ref a7, .ref a8, .ref a9, .ref a10, .ref a11, .int 0])), (h0, .inr (5, [.ref s0, .ref de, .ref kl, .ref tl, .ref cu, .ref hk, .ref ca, .int 0, .int 0, .int (-1), .int 0, .int 0])), (kl, .inr (2, [.ref kx, .ref ky, .int 0])), (tl, .inr (4, [.ref tx, .ref ty, .int 2]))] := hD
  have hq_1 := hw
  refine lv_aload_n hx hb dX5_has_4 rfl (lv_at hl 0 rfl) ?_
  refine lv_iload_n hx hb dX5_has_5 rfl (lv_at hl 1 rfl) ?_
  have hPc := hP.sub (ws' := [(h0, .inr (5, [.ref s0, .ref de, .ref kl, .ref tl, .ref cu, .ref hk, .ref ca, .int 0, .int 0, .int (-1), .int 0, .int 0])), (s0, .inr (3, [.ref a0, .ref a1, .ref a2, .ref a3, .ref a4, .ref a5, .ref a6, .int 0, .ref a7, .ref a8, .ref a9, .ref a10, .ref a11, .int 0]))]) [1, 0] rfl
  have hDc := hD.sub (ws' := [(h0, .inr (5, [.ref s0, .ref de, .ref kl, .ref tl, .ref cu, .ref hk, .ref ca, .int 0, .int 0, .int (-1), .int 0, .int 0])), (s0, .inr (3, [.ref a0, .ref a1, .ref a2, .ref a3, .ref a4, .ref a5, .ref a6, .int 0, .ref a7, .ref a8, .ref a9, .ref a10, .ref a11, .int 0]))]) [1, 0] (by decide) rfl
  have hFc := va_free (wc := [(h0, .inr (5, [.ref s0, .ref de, .ref kl, .ref tl, .ref cu, .ref hk, .ref ca, .int 0, .int 0, .int (-1), .int 0, .int 0])), (s0, .inr (3, [.ref a0, .ref a1, .ref a2, .ref a3, .ref a4, .ref a5, .ref a6, .int 0, .ref a7, .ref a8, .ref a9, .ref a10, .ref a11, .int 0]))]) hD hS hA [1, 0] rfl
  refine vx_callv (vx_runV (As := [.int p0]) (rest := []) ⟨hx, hb, hml, hown, ht⟩ (k5_requireObject l hl0 D C b0 H.size h0 s0 de kl tl cu hk ca a0 a1 a2 a3 a4 a5 a6 a7 a8 a9 a10 a11 p0) (cwV 1 ht (xg_V m_237 m_238 m_239 m_240 m_163) rfl rfl rfl (by decide +kernel) ⟨Nat.le_of_ble_eq_true rfl, Nat.le_of_ble_eq_true rfl⟩) ⟨xPc_bl, va_recv hK hPc (ci := 5) (q0 := 0) rfl rfl, xPc_at hPc hK hDc hE hS hAb⟩ rfl rfl hl.1 rfl (lv_room (Nat.le_of_ble_eq_true rfl)) dX5_has_6 ⟨(by decide), (by decide)⟩) hS (fun q _ h => hFc q h) hFc (fun q _ h => hFc q h) (fun E ce q9 u9 t9 H9 locs9 e9 v9 p9 b9 z9 k9 hS9 hc9 hn9 hf9 => ?_) (fun u_2 t H1 locs ht1 hvm hw hB hz1 hk1 hS => ?_)
  · skip
    obtain rfl := b9
    exact vx_out (mc := 3) (ms := 18) (fun x hx => (htab x hx).elim) hlocks hc9 hn9 hf9 (fun t ht1 hW1 => ⟨(), by first | exact p9 | trivial | assumption | (simp_all; done), rfl, hS9.F ht1⟩) hS9.2.2 (by decide) (by decide)
  · exact hw.elim
set_option maxHeartbeats 4000000 in
set_option maxRecDepth 100000 in
theorem k5_remove (l : Launch) (hl0 : l.stackTraces = false) (D : va_G) (C : Nat → ClassId) (b0 sz : Nat) (h0 : Nat) (s0 : Nat) (de : Nat) (kl : Nat) (tl : Nat) (cu : Nat) (hk : Nat) (ca : Nat) (kx : Nat) (ky : Nat) (tx : Nat) (ty : Nat) (a0 : Nat) (a1 : Nat) (a2 : Nat) (a3 : Nat) (a4 : Nat) (a5 : Nat) (a6 : Nat) (a7 : Nat) (a8 : Nat) (a9 : Nat) (a10 : Nat) (a11 : Nat) (p0 : Int32) (p1 : Int32) : vx_Met l yX5_remove (xw yX5_remove cX5_remove 3 (some .boolean)) ({ frames := 48, cells := 3, slots := 18, locals := 900 }) (xPc D C b0 [.ref h0, .int p0, .int p1] [(h0, .inr (5, [.ref s0, .ref de, .ref kl, .ref tl, .ref cu, .ref hk, .ref ca, .int 0, .int 0, .int (-1), .int 0, .int 0])), (kl, .inr (2, [.ref kx, .ref ky, .int 0])), (tl, .inr (4, [.ref tx, .ref ty, .int 1])), (s0, .inr (3, [.ref a0, .ref a1, .ref a2, .ref a3, .ref a4, .ref a5, .ref a6, .int 0, .ref a7, .ref a8, .ref a9, .ref a10, .ref a11, .int 0]))] sz) (va_Qi (fun (r : Int32) (u : xS) => False) (xBw D (va_A [(h0, .inr (5, [.ref s0, .ref de, .ref kl, .ref tl, .ref cu, .ref hk, .ref ca, .int 0, .int 0, .int (-1), .int 0, .int 0])), (kl, .inr (2, [.ref kx, .ref ky, .int 0])), (tl, .inr (4, [.ref tx, .ref ty, .int 1])), (s0, .inr (3, [.ref a0, .ref a1, .ref a2, .ref a3, .ref a4, .ref a5, .ref a6, .int 0, .ref a7, .ref a8, .ref a9, .ref a10, .ref a11, .int 0]))] sz) (fun u => [])) (va_A [(h0, .inr (5, [.ref s0, .ref de, .ref kl, .ref tl, .ref cu, .ref hk, .ref ca, .int 0, .int 0, .int (-1), .int 0, .int 0])), (kl, .inr (2, [.ref kx, .ref ky, .int 0])), (tl, .inr (4, [.ref tx, .ref ty, .int 1])), (s0, .inr (3, [.ref a0, .ref a1, .ref a2, .ref a3, .ref a4, .ref a5, .ref a6, .int 0, .ref a7, .ref a8, .ref a9, .ref a10, .ref a11, .int 0]))] sz)) (xX xIAE (True) (va_A [(h0, .inr (5, [.ref s0, .ref de, .ref kl, .ref tl, .ref cu, .ref hk, .ref ca, .int 0, .int 0, .int (-1), .int 0, .int 0])), (kl, .inr (2, [.ref kx, .ref ky, .int 0])), (tl, .inr (4, [.ref tx, .ref ty, .int 1])), (s0, .inr (3, [.ref a0, .ref a1, .ref a2, .ref a3, .ref a4, .ref a5, .ref a6, .int 0, .ref a7, .ref a8, .ref a9, .ref a10, .ref a11, .int 0]))] sz)) 3 18 (va_A [(h0, .inr (5, [.ref s0, .ref de, .ref kl, .ref tl, .ref cu, .ref hk, .ref ca, .int 0, .int 0, .int (-1), .int 0, .int 0])), (kl, .inr (2, [.ref kx, .ref ky, .int 0])), (tl, .inr (4, [.ref tx, .ref ty, .int 1])), (s0, .inr (3, [.ref a0, .ref a1, .ref a2, .ref a3, .ref a4, .ref a5, .ref a6, .int 0, .ref a7, .ref a8, .ref a9, .ref a10, .ref a11, .int 0]))] sz) := by
  refine vx_ofW (cc := cX5_remove) (maxL := 3) (ret := (some .boolean)) (by decide) rfl ?_
  intro p e s m args below meth c s₁ B hml htab hv
  obtain ⟨rfl, hsz, hP, hK, hD0, hE⟩ := hv
  have hx := B.exec
  have hb := B.bytes
  have hr := B.returns
  have ht : ∀ w ∈ xb, w.before _ s = true := fun w h => atoms_spec (ws := xw yX5_remove cX5_remove 3 (some .boolean)) B.pre w (List.mem_cons_of_mem _ h)
  have hown : s.vm.findClass RX5 = some m.cls := findClass_of_methodNamed B.named
  have hlocks := B.notSynchronized
  subst hsz
  have hAb := x_Ab hD0 hE.1
  have hD := hD0.self (sz := s.heap.size)
  generalize hAe : va_A [(h0, .inr (5, [.ref s0, .ref de, .ref kl, .ref tl, .ref cu, .ref hk, .ref ca, .int 0, .int 0, .int (-1), .int 0, .int 0])), (kl, .inr (2, [.ref kx, .ref ky, .int 0])), (tl, .inr (4, [.ref tx, .ref ty, .int 1])), (s0, .inr (3, [.ref a0, .ref a1, .ref a2, .ref a3, .ref a4, .ref a5, .ref a6, .int 0, .ref a7, .ref a8, .ref a9, .ref a10, .ref a11, .int 0]))] s.heap.size = A at hD hAb ⊢
  have hA : ∀ q : Nat, s.heap.size ≤ q → A q := fun q h => by rw [← hAe]; exact Or.inr h
  have hS : va_S A s.heap s.heap [] := va_S.rf
  have hP : va_P D vwCl [(h0, .inr (5, [.ref s0, .ref de, .ref kl, .ref tl, .ref cu, .ref hk, .ref ca, .int 0, .int 0, .int (-1), .int 0, .int 0])), (kl, .inr (2, [.ref kx, .ref ky, .int 0])), (tl, .inr (4, [.ref tx, .ref ty, .int 1])), (s0, .inr (3, [.ref a0, .ref a1, .ref a2, .ref a3, .ref a4, .ref a5, .ref a6, .int 0, .ref a7, .ref a8, .ref a9, .ref a10, .ref a11, .int 0]))] s.heap := hP
  have hl := lv_entry ([.ref h0, .int p0, .int p1]) (n := 3) (Nat.le_of_ble_eq_true rfl)
  rw [lg_entry_eq]
  generalize (lg_sl ([.ref h0, .int p0, .int p1]) ++ List.replicate (3 - (lg_sl ([.ref h0, .int p0, .int p1])).length) Slot.unset).toArray = ls at hl ⊢
  have hl : lv_has ls 3 [(0, .ref h0), (1, .int p0), (2, .int p1)] := hl
  refine lv_aload_n hx hb dX5_remove_0 rfl (lv_at hl 0 rfl) ?_
  have hPc := hP.sub (ws' := [(h0, .inr (5, [.ref s0, .ref de, .ref kl, .ref tl, .ref cu, .ref hk, .ref ca, .int 0, .int 0, .int (-1), .int 0, .int 0])), (kl, .inr (2, [.ref kx, .ref ky, .int 0])), (tl, .inr (4, [.ref tx, .ref ty, .int 1]))]) [0, 1, 2] rfl
  have hDc := hD.sub (ws' := [(h0, .inr (5, [.ref s0, .ref de, .ref kl, .ref tl, .ref cu, .ref hk, .ref ca, .int 0, .int 0, .int (-1), .int 0, .int 0])), (kl, .inr (2, [.ref kx, .ref ky, .int 0])), (tl, .inr (4, [.ref tx, .ref ty, .int 1]))]) [0, 1, 2] (by decide) rfl
  have hFc := va_free (wc := [(h0, .inr (5, [.ref s0, .ref de, .ref kl, .ref tl, .ref cu, .ref hk, .ref ca, .int 0, .int 0, .int (-1), .int 0, .int 0])), (kl, .inr (2, [.ref kx, .ref ky, .int 0])), (tl, .inr (4, [.ref tx, .ref ty, .int 1]))]) hD hS hA [0, 1, 2] rfl
  refine va_callv (va_runV (As := []) (rest := []) ⟨hx, hb, hml, hown, ht⟩ (k5_begin l D C b0 s.heap.size h0 s0 de kl tl cu hk ca kx ky tx ty) (cwV 0 ht (xg_V m_281 m_282 m_283 m_240 m_162) rfl rfl rfl (by decide +kernel) ⟨Nat.le_of_ble_eq_true rfl, Nat.le_of_ble_eq_true rfl⟩) ⟨xPc_bl, va_recv hK hPc (ci := 5) (q0 := 0) rfl rfl, xPc_at hPc hK hDc hE hS hAb⟩ rfl rfl hl.1 rfl (lv_room (Nat.le_of_ble_eq_true rfl)) dX5_remove_1 ⟨(by decide), (by decide)⟩) hS (fun q _ h => hFc q h) hFc (fun u_1 t H1 locs ht1 hvm hw hB hz1 hk1 hS => ?_)
  obtain ⟨hP1, hD1⟩ := hB
  rw [ht1] at hP1
  try dsimp only at hw
  obtain ⟨hP, hD⟩ := va_join (wr := [(s0, .inr (3, [.ref a0, .ref a1, .ref a2, .ref a3, .ref a4, .ref a5, .ref a6, .int 0, .ref a7, .ref a8, .ref a9, .ref a10, .ref a11, .int 0]))]) (w1 := [(h0, .inr (5, [.ref s0, .ref de, .ref kl, .ref tl, .ref cu, .ref hk, .ref ca, .int 0, .int 0, .int (-1), .int 0, .int 0])), (kl, .inr (2, [.ref kx, .ref ky, .int 0])), (tl, .inr (4, [.ref tx, .ref ty, .int 2]))]) hP hD [0, 1, 2] [3] rfl rfl (by decide) (by decide) hk1 hFc hP1 hD1
  generalize H1 = H at hP hS ⊢
  have hP : va_P D vwCl [(s0, .inr (3, [.ref a0, .ref a1, .ref a2, .ref a3, .ref a4, .ref a5, .ref a6, .int 0, .ref a7, .ref a8, .ref a9, .ref a10, .ref a11, .int 0])), (h0, .inr (5, [.ref s0, .ref de, .ref kl, .ref tl, .ref cu, .ref hk, .ref ca, .int 0, .int 0, .int (-1), .int 0, .int 0])), (kl, .inr (2, [.ref kx, .ref ky, .int 0])), (tl, .inr (4, [.ref tx, .ref ty, .int 2]))] H := hP
  have hD : va_D A [(s0, .inr (3, [.ref a0, .ref a1, .ref a2, .ref a3, .ref a4, .ref a5, .ref a6, .int 0, .ref a7, .ref a8, .ref a9, .ref a10, .ref a11, .int 0])), (h0, .inr (5, [.ref s0, .ref de, .ref kl, .ref tl, .ref cu, .ref hk, .ref ca, .int 0, .int 0, .int (-1), .int 0, .int 0])), (kl, .inr (2, [.ref kx, .ref ky, .int 0])), (tl, .inr (4, [.ref tx, .ref ty, .int 2]))] := hD
  have hq_1 := hw
  refine lv_aload_n hx hb dX5_remove_4 rfl (lv_at hl 0 rfl) ?_
  refine lv_iload_n hx hb dX5_remove_5 rfl (lv_at hl 1 rfl) ?_
  have hPc := hP.sub (ws' := [(h0, .inr (5, [.ref s0, .ref de, .ref kl, .ref tl, .ref cu, .ref hk, .ref ca, .int 0, .int 0, .int (-1), .int 0, .int 0])), (s0, .inr (3, [.ref a0, .ref a1, .ref a2, .ref a3, .ref a4, .ref a5, .ref a6, .int 0, .ref a7, .ref a8, .ref a9, .ref a10, .ref a11, .int 0]))]) [1, 0] rfl
  have hDc := hD.sub (ws' := [(h0, .inr (5, [.ref s0, .ref de, .ref kl, .ref tl, .ref cu, .ref hk, .ref ca, .int 0, .int 0, .int (-1), .int 0, .int 0])), (s0, .inr (3, [.ref a0, .ref a1, .ref a2, .ref a3, .ref a4, .ref a5, .ref a6, .int 0, .ref a7, .ref a8, .ref a9, .ref a10, .ref a11, .int 0]))]) [1, 0] (by decide) rfl
  have hFc := va_free (wc := [(h0, .inr (5, [.ref s0, .ref de, .ref kl, .ref tl, .ref cu, .ref hk, .ref ca, .int 0, .int 0, .int (-1), .int 0, .int 0])), (s0, .inr (3, [.ref a0, .ref a1, .ref a2, .ref a3, .ref a4, .ref a5, .ref a6, .int 0, .ref a7, .ref a8, .ref a9, .ref a10, .ref a11, .int 0]))]) hD hS hA [1, 0] rfl
  refine vx_callv (vx_runV (As := [.int p0]) (rest := []) ⟨hx, hb, hml, hown, ht⟩ (k5_requireObject l hl0 D C b0 H.size h0 s0 de kl tl cu hk ca a0 a1 a2 a3 a4 a5 a6 a7 a8 a9 a10 a11 p0) (cwV 1 ht (xg_V m_237 m_238 m_239 m_240 m_163) rfl rfl rfl (by decide +kernel) ⟨Nat.le_of_ble_eq_true rfl, Nat.le_of_ble_eq_true rfl⟩) ⟨xPc_bl, va_recv hK hPc (ci := 5) (q0 := 0) rfl rfl, xPc_at hPc hK hDc hE hS hAb⟩ rfl rfl hl.1 rfl (lv_room (Nat.le_of_ble_eq_true rfl)) dX5_remove_6 ⟨(by decide), (by decide)⟩) hS (fun q _ h => hFc q h) hFc (fun q _ h => hFc q h) (fun E ce q9 u9 t9 H9 locs9 e9 v9 p9 b9 z9 k9 hS9 hc9 hn9 hf9 => ?_) (fun u_2 t H1 locs ht1 hvm hw hB hz1 hk1 hS => ?_)
  · skip
    obtain rfl := b9
    exact vx_out (mc := 3) (ms := 18) (fun x hx => (htab x hx).elim) hlocks hc9 hn9 hf9 (fun t ht1 hW1 => ⟨(), by first | exact p9 | trivial | assumption | (simp_all; done), rfl, hS9.F ht1⟩) hS9.2.2 (by decide) (by decide)
  · exact hw.elim
set_option maxHeartbeats 4000000 in
set_option maxRecDepth 100000 in
theorem k5_define (l : Launch) (hl0 : l.stackTraces = false) (D : va_G) (C : Nat → ClassId) (b0 sz : Nat) (h0 : Nat) (s0 : Nat) (de : Nat) (kl : Nat) (tl : Nat) (cu : Nat) (hk : Nat) (ca : Nat) (kx : Nat) (ky : Nat) (tx : Nat) (ty : Nat) (a0 : Nat) (a1 : Nat) (a2 : Nat) (a3 : Nat) (a4 : Nat) (a5 : Nat) (a6 : Nat) (a7 : Nat) (a8 : Nat) (a9 : Nat) (a10 : Nat) (a11 : Nat) (p0 : Int32) (p1 : Int32) (p2 : Int32) (p3 : Int32) (p4 : Int32) : vx_Met l yX5_define (xw yX5_define cX5_define 7 (some .boolean)) ({ frames := 48, cells := 3, slots := 18, locals := 900 }) (xPc D C b0 [.ref h0, .int p0, .int p1, .int p2, .int p3, .int p4] [(h0, .inr (5, [.ref s0, .ref de, .ref kl, .ref tl, .ref cu, .ref hk, .ref ca, .int 0, .int 0, .int (-1), .int 0, .int 0])), (kl, .inr (2, [.ref kx, .ref ky, .int 0])), (tl, .inr (4, [.ref tx, .ref ty, .int 1])), (s0, .inr (3, [.ref a0, .ref a1, .ref a2, .ref a3, .ref a4, .ref a5, .ref a6, .int 0, .ref a7, .ref a8, .ref a9, .ref a10, .ref a11, .int 0]))] sz) (va_Qi (fun (r : Int32) (u : xS) => False) (xBw D (va_A [(h0, .inr (5, [.ref s0, .ref de, .ref kl, .ref tl, .ref cu, .ref hk, .ref ca, .int 0, .int 0, .int (-1), .int 0, .int 0])), (kl, .inr (2, [.ref kx, .ref ky, .int 0])), (tl, .inr (4, [.ref tx, .ref ty, .int 1])), (s0, .inr (3, [.ref a0, .ref a1, .ref a2, .ref a3, .ref a4, .ref a5, .ref a6, .int 0, .ref a7, .ref a8, .ref a9, .ref a10, .ref a11, .int 0]))] sz) (fun u => [])) (va_A [(h0, .inr (5, [.ref s0, .ref de, .ref kl, .ref tl, .ref cu, .ref hk, .ref ca, .int 0, .int 0, .int (-1), .int 0, .int 0])), (kl, .inr (2, [.ref kx, .ref ky, .int 0])), (tl, .inr (4, [.ref tx, .ref ty, .int 1])), (s0, .inr (3, [.ref a0, .ref a1, .ref a2, .ref a3, .ref a4, .ref a5, .ref a6, .int 0, .ref a7, .ref a8, .ref a9, .ref a10, .ref a11, .int 0]))] sz)) (xX xIAE (True) (va_A [(h0, .inr (5, [.ref s0, .ref de, .ref kl, .ref tl, .ref cu, .ref hk, .ref ca, .int 0, .int 0, .int (-1), .int 0, .int 0])), (kl, .inr (2, [.ref kx, .ref ky, .int 0])), (tl, .inr (4, [.ref tx, .ref ty, .int 1])), (s0, .inr (3, [.ref a0, .ref a1, .ref a2, .ref a3, .ref a4, .ref a5, .ref a6, .int 0, .ref a7, .ref a8, .ref a9, .ref a10, .ref a11, .int 0]))] sz)) 3 18 (va_A [(h0, .inr (5, [.ref s0, .ref de, .ref kl, .ref tl, .ref cu, .ref hk, .ref ca, .int 0, .int 0, .int (-1), .int 0, .int 0])), (kl, .inr (2, [.ref kx, .ref ky, .int 0])), (tl, .inr (4, [.ref tx, .ref ty, .int 1])), (s0, .inr (3, [.ref a0, .ref a1, .ref a2, .ref a3, .ref a4, .ref a5, .ref a6, .int 0, .ref a7, .ref a8, .ref a9, .ref a10, .ref a11, .int 0]))] sz) := by
  refine vx_ofW (cc := cX5_define) (maxL := 7) (ret := (some .boolean)) (by decide) rfl ?_
  intro p e s m args below meth c s₁ B hml htab hv
  obtain ⟨rfl, hsz, hP, hK, hD0, hE⟩ := hv
  have hx := B.exec
  have hb := B.bytes
  have hr := B.returns
  have ht : ∀ w ∈ xb, w.before _ s = true := fun w h => atoms_spec (ws := xw yX5_define cX5_define 7 (some .boolean)) B.pre w (List.mem_cons_of_mem _ h)
  have hown : s.vm.findClass RX5 = some m.cls := findClass_of_methodNamed B.named
  have hlocks := B.notSynchronized
  subst hsz
  have hAb := x_Ab hD0 hE.1
  have hD := hD0.self (sz := s.heap.size)
  generalize hAe : va_A [(h0, .inr (5, [.ref s0, .ref de, .ref kl, .ref tl, .ref cu, .ref hk, .ref ca, .int 0, .int 0, .int (-1), .int 0, .int 0])), (kl, .inr (2, [.ref kx, .ref ky, .int 0])), (tl, .inr (4, [.ref tx, .ref ty, .int 1])), (s0, .inr (3, [.ref a0, .ref a1, .ref a2, .ref a3, .ref a4, .ref a5, .ref a6, .int 0, .ref a7, .ref a8, .ref a9, .ref a10, .ref a11, .int 0]))] s.heap.size = A at hD hAb ⊢
  have hA : ∀ q : Nat, s.heap.size ≤ q → A q := fun q h => by rw [← hAe]; exact Or.inr h
  have hS : va_S A s.heap s.heap [] := va_S.rf
  have hP : va_P D vwCl [(h0, .inr (5, [.ref s0, .ref de, .ref kl, .ref tl, .ref cu, .ref hk, .ref ca, .int 0, .int 0, .int (-1), .int 0, .int 0])), (kl, .inr (2, [.ref kx, .ref ky, .int 0])), (tl, .inr (4, [.ref tx, .ref ty, .int 1])), (s0, .inr (3, [.ref a0, .ref a1, .ref a2, .ref a3, .ref a4, .ref a5, .ref a6, .int 0, .ref a7, .ref a8, .ref a9, .ref a10, .ref a11, .int 0]))] s.heap := hP
  have hl := lv_entry ([.ref h0, .int p0, .int p1, .int p2, .int p3, .int p4]) (n := 7) (Nat.le_of_ble_eq_true rfl)
  rw [lg_entry_eq]
  generalize (lg_sl ([.ref h0, .int p0, .int p1, .int p2, .int p3, .int p4]) ++ List.replicate (7 - (lg_sl ([.ref h0, .int p0, .int p1, .int p2, .int p3, .int p4])).length) Slot.unset).toArray = ls at hl ⊢
  have hl : lv_has ls 7 [(0, .ref h0), (1, .int p0), (2, .int p1), (3, .int p2), (4, .int p3), (5, .int p4)] := hl
  refine lv_aload_n hx hb dX5_define_0 rfl (lv_at hl 0 rfl) ?_
  have hPc := hP.sub (ws' := [(h0, .inr (5, [.ref s0, .ref de, .ref kl, .ref tl, .ref cu, .ref hk, .ref ca, .int 0, .int 0, .int (-1), .int 0, .int 0])), (kl, .inr (2, [.ref kx, .ref ky, .int 0])), (tl, .inr (4, [.ref tx, .ref ty, .int 1]))]) [0, 1, 2] rfl
  have hDc := hD.sub (ws' := [(h0, .inr (5, [.ref s0, .ref de, .ref kl, .ref tl, .ref cu, .ref hk, .ref ca, .int 0, .int 0, .int (-1), .int 0, .int 0])), (kl, .inr (2, [.ref kx, .ref ky, .int 0])), (tl, .inr (4, [.ref tx, .ref ty, .int 1]))]) [0, 1, 2] (by decide) rfl
  have hFc := va_free (wc := [(h0, .inr (5, [.ref s0, .ref de, .ref kl, .ref tl, .ref cu, .ref hk, .ref ca, .int 0, .int 0, .int (-1), .int 0, .int 0])), (kl, .inr (2, [.ref kx, .ref ky, .int 0])), (tl, .inr (4, [.ref tx, .ref ty, .int 1]))]) hD hS hA [0, 1, 2] rfl
  refine va_callv (va_runV (As := []) (rest := []) ⟨hx, hb, hml, hown, ht⟩ (k5_begin l D C b0 s.heap.size h0 s0 de kl tl cu hk ca kx ky tx ty) (cwV 0 ht (xg_V m_281 m_282 m_283 m_240 m_162) rfl rfl rfl (by decide +kernel) ⟨Nat.le_of_ble_eq_true rfl, Nat.le_of_ble_eq_true rfl⟩) ⟨xPc_bl, va_recv hK hPc (ci := 5) (q0 := 0) rfl rfl, xPc_at hPc hK hDc hE hS hAb⟩ rfl rfl hl.1 rfl (lv_room (Nat.le_of_ble_eq_true rfl)) dX5_define_1 ⟨(by decide), (by decide)⟩) hS (fun q _ h => hFc q h) hFc (fun u_1 t H1 locs ht1 hvm hw hB hz1 hk1 hS => ?_)
  obtain ⟨hP1, hD1⟩ := hB
  rw [ht1] at hP1
  try dsimp only at hw
  obtain ⟨hP, hD⟩ := va_join (wr := [(s0, .inr (3, [.ref a0, .ref a1, .ref a2, .ref a3, .ref a4, .ref a5, .ref a6, .int 0, .ref a7, .ref a8, .ref a9, .ref a10, .ref a11, .int 0]))]) (w1 := [(h0, .inr (5, [.ref s0, .ref de, .ref kl, .ref tl, .ref cu, .ref hk, .ref ca, .int 0, .int 0, .int (-1), .int 0, .int 0])), (kl, .inr (2, [.ref kx, .ref ky, .int 0])), (tl, .inr (4, [.ref tx, .ref ty, .int 2]))]) hP hD [0, 1, 2] [3] rfl rfl (by decide) (by decide) hk1 hFc hP1 hD1
  generalize H1 = H at hP hS ⊢
  have hP : va_P D vwCl [(s0, .inr (3, [.ref a0, .ref a1, .ref a2, .ref a3, .ref a4, .ref a5, .ref a6, .int 0, .ref a7, .ref a8, .ref a9, .ref a10, .ref a11, .int 0])), (h0, .inr (5, [.ref s0, .ref de, .ref kl, .ref tl, .ref cu, .ref hk, .ref ca, .int 0, .int 0, .int (-1), .int 0, .int 0])), (kl, .inr (2, [.ref kx, .ref ky, .int 0])), (tl, .inr (4, [.ref tx, .ref ty, .int 2]))] H := hP
  have hD : va_D A [(s0, .inr (3, [.ref a0, .ref a1, .ref a2, .ref a3, .ref a4, .ref a5, .ref a6, .int 0, .ref a7, .ref a8, .ref a9, .ref a10, .ref a11, .int 0])), (h0, .inr (5, [.ref s0, .ref de, .ref kl, .ref tl, .ref cu, .ref hk, .ref ca, .int 0, .int 0, .int (-1), .int 0, .int 0])), (kl, .inr (2, [.ref kx, .ref ky, .int 0])), (tl, .inr (4, [.ref tx, .ref ty, .int 2]))] := hD
  have hq_1 := hw
  refine lv_aload_n hx hb dX5_define_4 rfl (lv_at hl 0 rfl) ?_
  refine lv_iload_n hx hb dX5_define_5 rfl (lv_at hl 1 rfl) ?_
  have hPc := hP.sub (ws' := [(h0, .inr (5, [.ref s0, .ref de, .ref kl, .ref tl, .ref cu, .ref hk, .ref ca, .int 0, .int 0, .int (-1), .int 0, .int 0])), (s0, .inr (3, [.ref a0, .ref a1, .ref a2, .ref a3, .ref a4, .ref a5, .ref a6, .int 0, .ref a7, .ref a8, .ref a9, .ref a10, .ref a11, .int 0]))]) [1, 0] rfl
  have hDc := hD.sub (ws' := [(h0, .inr (5, [.ref s0, .ref de, .ref kl, .ref tl, .ref cu, .ref hk, .ref ca, .int 0, .int 0, .int (-1), .int 0, .int 0])), (s0, .inr (3, [.ref a0, .ref a1, .ref a2, .ref a3, .ref a4, .ref a5, .ref a6, .int 0, .ref a7, .ref a8, .ref a9, .ref a10, .ref a11, .int 0]))]) [1, 0] (by decide) rfl
  have hFc := va_free (wc := [(h0, .inr (5, [.ref s0, .ref de, .ref kl, .ref tl, .ref cu, .ref hk, .ref ca, .int 0, .int 0, .int (-1), .int 0, .int 0])), (s0, .inr (3, [.ref a0, .ref a1, .ref a2, .ref a3, .ref a4, .ref a5, .ref a6, .int 0, .ref a7, .ref a8, .ref a9, .ref a10, .ref a11, .int 0]))]) hD hS hA [1, 0] rfl
  refine vx_callv (vx_runV (As := [.int p0]) (rest := []) ⟨hx, hb, hml, hown, ht⟩ (k5_requireObject l hl0 D C b0 H.size h0 s0 de kl tl cu hk ca a0 a1 a2 a3 a4 a5 a6 a7 a8 a9 a10 a11 p0) (cwV 1 ht (xg_V m_237 m_238 m_239 m_240 m_163) rfl rfl rfl (by decide +kernel) ⟨Nat.le_of_ble_eq_true rfl, Nat.le_of_ble_eq_true rfl⟩) ⟨xPc_bl, va_recv hK hPc (ci := 5) (q0 := 0) rfl rfl, xPc_at hPc hK hDc hE hS hAb⟩ rfl rfl hl.1 rfl (lv_room (Nat.le_of_ble_eq_true rfl)) dX5_define_6 ⟨(by decide), (by decide)⟩) hS (fun q _ h => hFc q h) hFc (fun q _ h => hFc q h) (fun E ce q9 u9 t9 H9 locs9 e9 v9 p9 b9 z9 k9 hS9 hc9 hn9 hf9 => ?_) (fun u_2 t H1 locs ht1 hvm hw hB hz1 hk1 hS => ?_)
  · skip
    obtain rfl := b9
    exact vx_out (mc := 3) (ms := 18) (fun x hx => (htab x hx).elim) hlocks hc9 hn9 hf9 (fun t ht1 hW1 => ⟨(), by first | exact p9 | trivial | assumption | (simp_all; done), rfl, hS9.F ht1⟩) hS9.2.2 (by decide) (by decide)
  · exact hw.elim
set_option maxHeartbeats 4000000 in
set_option maxRecDepth 100000 in
theorem k5_about (l : Launch) (hl0 : l.stackTraces = false) (D : va_G) (C : Nat → ClassId) (b0 sz : Nat) (h0 : Nat) (s0 : Nat) (de : Nat) (kl : Nat) (tl : Nat) (cu : Nat) (hk : Nat) (ca : Nat) (kx : Nat) (ky : Nat) (tx : Nat) (ty : Nat) (a0 : Nat) (a1 : Nat) (a2 : Nat) (a3 : Nat) (a4 : Nat) (a5 : Nat) (a6 : Nat) (a7 : Nat) (a8 : Nat) (a9 : Nat) (a10 : Nat) (a11 : Nat) (p0 : Int32) (p1 : Int32) (p2 : Int32) : vx_Met l yX5_about (xw yX5_about cX5_about 5 (some .int)) ({ frames := 48, cells := 3, slots := 18, locals := 900 }) (xPc D C b0 [.ref h0, .int p0, .int p1, .int p2] [(h0, .inr (5, [.ref s0, .ref de, .ref kl, .ref tl, .ref cu, .ref hk, .ref ca, .int 0, .int 0, .int (-1), .int 0, .int 0])), (kl, .inr (2, [.ref kx, .ref ky, .int 0])), (tl, .inr (4, [.ref tx, .ref ty, .int 1])), (s0, .inr (3, [.ref a0, .ref a1, .ref a2, .ref a3, .ref a4, .ref a5, .ref a6, .int 0, .ref a7, .ref a8, .ref a9, .ref a10, .ref a11, .int 0]))] sz) (va_Qi (fun (r : Int32) (u : xS) => False) (xBw D (va_A [(h0, .inr (5, [.ref s0, .ref de, .ref kl, .ref tl, .ref cu, .ref hk, .ref ca, .int 0, .int 0, .int (-1), .int 0, .int 0])), (kl, .inr (2, [.ref kx, .ref ky, .int 0])), (tl, .inr (4, [.ref tx, .ref ty, .int 1])), (s0, .inr (3, [.ref a0, .ref a1, .ref a2, .ref a3, .ref a4, .ref a5, .ref a6, .int 0, .ref a7, .ref a8, .ref a9, .ref a10, .ref a11, .int 0]))] sz) (fun u => [])) (va_A [(h0, .inr (5, [.ref s0, .ref de, .ref kl, .ref tl, .ref cu, .ref hk, .ref ca, .int 0, .int 0, .int (-1), .int 0, .int 0])), (kl, .inr (2, [.ref kx, .ref ky, .int 0])), (tl, .inr (4, [.ref tx, .ref ty, .int 1])), (s0, .inr (3, [.ref a0, .ref a1, .ref a2, .ref a3, .ref a4, .ref a5, .ref a6, .int 0, .ref a7, .ref a8, .ref a9, .ref a10, .ref a11, .int 0]))] sz)) (xX xIAE (True) (va_A [(h0, .inr (5, [.ref s0, .ref de, .ref kl, .ref tl, .ref cu, .ref hk, .ref ca, .int 0, .int 0, .int (-1), .int 0, .int 0])), (kl, .inr (2, [.ref kx, .ref ky, .int 0])), (tl, .inr (4, [.ref tx, .ref ty, .int 1])), (s0, .inr (3, [.ref a0, .ref a1, .ref a2, .ref a3, .ref a4, .ref a5, .ref a6, .int 0, .ref a7, .ref a8, .ref a9, .ref a10, .ref a11, .int 0]))] sz)) 3 18 (va_A [(h0, .inr (5, [.ref s0, .ref de, .ref kl, .ref tl, .ref cu, .ref hk, .ref ca, .int 0, .int 0, .int (-1), .int 0, .int 0])), (kl, .inr (2, [.ref kx, .ref ky, .int 0])), (tl, .inr (4, [.ref tx, .ref ty, .int 1])), (s0, .inr (3, [.ref a0, .ref a1, .ref a2, .ref a3, .ref a4, .ref a5, .ref a6, .int 0, .ref a7, .ref a8, .ref a9, .ref a10, .ref a11, .int 0]))] sz) := by
  refine vx_ofW (cc := cX5_about) (maxL := 5) (ret := (some .int)) (by decide) rfl ?_
  intro p e s m args below meth c s₁ B hml htab hv
  obtain ⟨rfl, hsz, hP, hK, hD0, hE⟩ := hv
  have hx := B.exec
  have hb := B.bytes
  have hr := B.returns
  have ht : ∀ w ∈ xb, w.before _ s = true := fun w h => atoms_spec (ws := xw yX5_about cX5_about 5 (some .int)) B.pre w (List.mem_cons_of_mem _ h)
  have hown : s.vm.findClass RX5 = some m.cls := findClass_of_methodNamed B.named
  have hlocks := B.notSynchronized
  subst hsz
  have hAb := x_Ab hD0 hE.1
  have hD := hD0.self (sz := s.heap.size)
  generalize hAe : va_A [(h0, .inr (5, [.ref s0, .ref de, .ref kl, .ref tl, .ref cu, .ref hk, .ref ca, .int 0, .int 0, .int (-1), .int 0, .int 0])), (kl, .inr (2, [.ref kx, .ref ky, .int 0])), (tl, .inr (4, [.ref tx, .ref ty, .int 1])), (s0, .inr (3, [.ref a0, .ref a1, .ref a2, .ref a3, .ref a4, .ref a5, .ref a6, .int 0, .ref a7, .ref a8, .ref a9, .ref a10, .ref a11, .int 0]))] s.heap.size = A at hD hAb ⊢
  have hA : ∀ q : Nat, s.heap.size ≤ q → A q := fun q h => by rw [← hAe]; exact Or.inr h
  have hS : va_S A s.heap s.heap [] := va_S.rf
  have hP : va_P D vwCl [(h0, .inr (5, [.ref s0, .ref de, .ref kl, .ref tl, .ref cu, .ref hk, .ref ca, .int 0, .int 0, .int (-1), .int 0, .int 0])), (kl, .inr (2, [.ref kx, .ref ky, .int 0])), (tl, .inr (4, [.ref tx, .ref ty, .int 1])), (s0, .inr (3, [.ref a0, .ref a1, .ref a2, .ref a3, .ref a4, .ref a5, .ref a6, .int 0, .ref a7, .ref a8, .ref a9, .ref a10, .ref a11, .int 0]))] s.heap := hP
  have hl := lv_entry ([.ref h0, .int p0, .int p1, .int p2]) (n := 5) (Nat.le_of_ble_eq_true rfl)
  rw [lg_entry_eq]
  generalize (lg_sl ([.ref h0, .int p0, .int p1, .int p2]) ++ List.replicate (5 - (lg_sl ([.ref h0, .int p0, .int p1, .int p2])).length) Slot.unset).toArray = ls at hl ⊢
  have hl : lv_has ls 5 [(0, .ref h0), (1, .int p0), (2, .int p1), (3, .int p2)] := hl
  refine lv_aload_n hx hb dX5_about_0 rfl (lv_at hl 0 rfl) ?_
  have hPc := hP.sub (ws' := [(h0, .inr (5, [.ref s0, .ref de, .ref kl, .ref tl, .ref cu, .ref hk, .ref ca, .int 0, .int 0, .int (-1), .int 0, .int 0])), (kl, .inr (2, [.ref kx, .ref ky, .int 0])), (tl, .inr (4, [.ref tx, .ref ty, .int 1]))]) [0, 1, 2] rfl
  have hDc := hD.sub (ws' := [(h0, .inr (5, [.ref s0, .ref de, .ref kl, .ref tl, .ref cu, .ref hk, .ref ca, .int 0, .int 0, .int (-1), .int 0, .int 0])), (kl, .inr (2, [.ref kx, .ref ky, .int 0])), (tl, .inr (4, [.ref tx, .ref ty, .int 1]))]) [0, 1, 2] (by decide) rfl
  have hFc := va_free (wc := [(h0, .inr (5, [.ref s0, .ref de, .ref kl, .ref tl, .ref cu, .ref hk, .ref ca, .int 0, .int 0, .int (-1), .int 0, .int 0])), (kl, .inr (2, [.ref kx, .ref ky, .int 0])), (tl, .inr (4, [.ref tx, .ref ty, .int 1]))]) hD hS hA [0, 1, 2] rfl
  refine va_callv (va_runV (As := []) (rest := []) ⟨hx, hb, hml, hown, ht⟩ (k5_begin l D C b0 s.heap.size h0 s0 de kl tl cu hk ca kx ky tx ty) (cwV 0 ht (xg_V m_281 m_282 m_283 m_240 m_162) rfl rfl rfl (by decide +kernel) ⟨Nat.le_of_ble_eq_true rfl, Nat.le_of_ble_eq_true rfl⟩) ⟨xPc_bl, va_recv hK hPc (ci := 5) (q0 := 0) rfl rfl, xPc_at hPc hK hDc hE hS hAb⟩ rfl rfl hl.1 rfl (lv_room (Nat.le_of_ble_eq_true rfl)) dX5_about_1 ⟨(by decide), (by decide)⟩) hS (fun q _ h => hFc q h) hFc (fun u_1 t H1 locs ht1 hvm hw hB hz1 hk1 hS => ?_)
  obtain ⟨hP1, hD1⟩ := hB
  rw [ht1] at hP1
  try dsimp only at hw
  obtain ⟨hP, hD⟩ := va_join (wr := [(s0, .inr (3, [.ref a0, .ref a1, .ref a2, .ref a3, .ref a4, .ref a5, .ref a6, .int 0, .ref a7, .ref a8, .ref a9, .ref a10, .ref a11, .int 0]))]) (w1 := [(h0, .inr (5, [.ref s0, .ref de, .ref kl, .ref tl, .ref cu, .ref hk, .ref ca, .int 0, .int 0, .int (-1), .int 0, .int 0])), (kl, .inr (2, [.ref kx, .ref ky, .int 0])), (tl, .inr (4, [.ref tx, .ref ty, .int 2]))]) hP hD [0, 1, 2] [3] rfl rfl (by decide) (by decide) hk1 hFc hP1 hD1
  generalize H1 = H at hP hS ⊢
  have hP : va_P D vwCl [(s0, .inr (3, [.ref a0, .ref a1, .ref a2, .ref a3, .ref a4, .ref a5, .ref a6, .int 0, .ref a7, .ref a8, .ref a9, .ref a10, .ref a11, .int 0])), (h0, .inr (5, [.ref s0, .ref de, .ref kl, .ref tl, .ref cu, .ref hk, .ref ca, .int 0, .int 0, .int (-1), .int 0, .int 0])), (kl, .inr (2, [.ref kx, .ref ky, .int 0])), (tl, .inr (4, [.ref tx, .ref ty, .int 2]))] H := hP
  have hD : va_D A [(s0, .inr (3, [.ref a0, .ref a1, .ref a2, .ref a3, .ref a4, .ref a5, .ref a6, .int 0, .ref a7, .ref a8, .ref a9, .ref a10, .ref a11, .int 0])), (h0, .inr (5, [.ref s0, .ref de, .ref kl, .ref tl, .ref cu, .ref hk, .ref ca, .int 0, .int 0, .int (-1), .int 0, .int 0])), (kl, .inr (2, [.ref kx, .ref ky, .int 0])), (tl, .inr (4, [.ref tx, .ref ty, .int 2]))] := hD
  have hq_1 := hw
  refine lv_aload_n hx hb dX5_about_4 rfl (lv_at hl 0 rfl) ?_
  refine lv_iload_n hx hb dX5_about_5 rfl (lv_at hl 1 rfl) ?_
  have hPc := hP.sub (ws' := [(h0, .inr (5, [.ref s0, .ref de, .ref kl, .ref tl, .ref cu, .ref hk, .ref ca, .int 0, .int 0, .int (-1), .int 0, .int 0])), (s0, .inr (3, [.ref a0, .ref a1, .ref a2, .ref a3, .ref a4, .ref a5, .ref a6, .int 0, .ref a7, .ref a8, .ref a9, .ref a10, .ref a11, .int 0]))]) [1, 0] rfl
  have hDc := hD.sub (ws' := [(h0, .inr (5, [.ref s0, .ref de, .ref kl, .ref tl, .ref cu, .ref hk, .ref ca, .int 0, .int 0, .int (-1), .int 0, .int 0])), (s0, .inr (3, [.ref a0, .ref a1, .ref a2, .ref a3, .ref a4, .ref a5, .ref a6, .int 0, .ref a7, .ref a8, .ref a9, .ref a10, .ref a11, .int 0]))]) [1, 0] (by decide) rfl
  have hFc := va_free (wc := [(h0, .inr (5, [.ref s0, .ref de, .ref kl, .ref tl, .ref cu, .ref hk, .ref ca, .int 0, .int 0, .int (-1), .int 0, .int 0])), (s0, .inr (3, [.ref a0, .ref a1, .ref a2, .ref a3, .ref a4, .ref a5, .ref a6, .int 0, .ref a7, .ref a8, .ref a9, .ref a10, .ref a11, .int 0]))]) hD hS hA [1, 0] rfl
  refine vx_callv (vx_runV (As := [.int p0]) (rest := []) ⟨hx, hb, hml, hown, ht⟩ (k5_requireObject l hl0 D C b0 H.size h0 s0 de kl tl cu hk ca a0 a1 a2 a3 a4 a5 a6 a7 a8 a9 a10 a11 p0) (cwV 1 ht (xg_V m_237 m_238 m_239 m_240 m_163) rfl rfl rfl (by decide +kernel) ⟨Nat.le_of_ble_eq_true rfl, Nat.le_of_ble_eq_true rfl⟩) ⟨xPc_bl, va_recv hK hPc (ci := 5) (q0 := 0) rfl rfl, xPc_at hPc hK hDc hE hS hAb⟩ rfl rfl hl.1 rfl (lv_room (Nat.le_of_ble_eq_true rfl)) dX5_about_6 ⟨(by decide), (by decide)⟩) hS (fun q _ h => hFc q h) hFc (fun q _ h => hFc q h) (fun E ce q9 u9 t9 H9 locs9 e9 v9 p9 b9 z9 k9 hS9 hc9 hn9 hf9 => ?_) (fun u_2 t H1 locs ht1 hvm hw hB hz1 hk1 hS => ?_)
  · skip
    obtain rfl := b9
    exact vx_out (mc := 3) (ms := 18) (fun x hx => (htab x hx).elim) hlocks hc9 hn9 hf9 (fun t ht1 hW1 => ⟨(), by first | exact p9 | trivial | assumption | (simp_all; done), rfl, hS9.F ht1⟩) hS9.2.2 (by decide) (by decide)
  · exact hw.elim
set_option maxHeartbeats 4000000 in
set_option maxRecDepth 100000 in
theorem k5_keys (l : Launch) (hl0 : l.stackTraces = false) (D : va_G) (C : Nat → ClassId) (b0 sz : Nat) (h0 : Nat) (s0 : Nat) (de : Nat) (kl : Nat) (tl : Nat) (cu : Nat) (hk : Nat) (ca : Nat) (kx : Nat) (ky : Nat) (tx : Nat) (ty : Nat) (a0 : Nat) (a1 : Nat) (a2 : Nat) (a3 : Nat) (a4 : Nat) (a5 : Nat) (a6 : Nat) (a7 : Nat) (a8 : Nat) (a9 : Nat) (a10 : Nat) (a11 : Nat) (p0 : Int32) (p1 : Int32) : vx_Met l yX5_keys (xw yX5_keys cX5_keys 5 (some .int)) ({ frames := 48, cells := 3, slots := 18, locals := 900 }) (xPc D C b0 [.ref h0, .int p0, .int p1] [(h0, .inr (5, [.ref s0, .ref de, .ref kl, .ref tl, .ref cu, .ref hk, .ref ca, .int 0, .int 0, .int (-1), .int 0, .int 0])), (kl, .inr (2, [.ref kx, .ref ky, .int 0])), (tl, .inr (4, [.ref tx, .ref ty, .int 1])), (s0, .inr (3, [.ref a0, .ref a1, .ref a2, .ref a3, .ref a4, .ref a5, .ref a6, .int 0, .ref a7, .ref a8, .ref a9, .ref a10, .ref a11, .int 0]))] sz) (va_Qi (fun (r : Int32) (u : xS) => False) (xBw D (va_A [(h0, .inr (5, [.ref s0, .ref de, .ref kl, .ref tl, .ref cu, .ref hk, .ref ca, .int 0, .int 0, .int (-1), .int 0, .int 0])), (kl, .inr (2, [.ref kx, .ref ky, .int 0])), (tl, .inr (4, [.ref tx, .ref ty, .int 1])), (s0, .inr (3, [.ref a0, .ref a1, .ref a2, .ref a3, .ref a4, .ref a5, .ref a6, .int 0, .ref a7, .ref a8, .ref a9, .ref a10, .ref a11, .int 0]))] sz) (fun u => [])) (va_A [(h0, .inr (5, [.ref s0, .ref de, .ref kl, .ref tl, .ref cu, .ref hk, .ref ca, .int 0, .int 0, .int (-1), .int 0, .int 0])), (kl, .inr (2, [.ref kx, .ref ky, .int 0])), (tl, .inr (4, [.ref tx, .ref ty, .int 1])), (s0, .inr (3, [.ref a0, .ref a1, .ref a2, .ref a3, .ref a4, .ref a5, .ref a6, .int 0, .ref a7, .ref a8, .ref a9, .ref a10, .ref a11, .int 0]))] sz)) (xX xIAE (True) (va_A [(h0, .inr (5, [.ref s0, .ref de, .ref kl, .ref tl, .ref cu, .ref hk, .ref ca, .int 0, .int 0, .int (-1), .int 0, .int 0])), (kl, .inr (2, [.ref kx, .ref ky, .int 0])), (tl, .inr (4, [.ref tx, .ref ty, .int 1])), (s0, .inr (3, [.ref a0, .ref a1, .ref a2, .ref a3, .ref a4, .ref a5, .ref a6, .int 0, .ref a7, .ref a8, .ref a9, .ref a10, .ref a11, .int 0]))] sz)) 3 18 (va_A [(h0, .inr (5, [.ref s0, .ref de, .ref kl, .ref tl, .ref cu, .ref hk, .ref ca, .int 0, .int 0, .int (-1), .int 0, .int 0])), (kl, .inr (2, [.ref kx, .ref ky, .int 0])), (tl, .inr (4, [.ref tx, .ref ty, .int 1])), (s0, .inr (3, [.ref a0, .ref a1, .ref a2, .ref a3, .ref a4, .ref a5, .ref a6, .int 0, .ref a7, .ref a8, .ref a9, .ref a10, .ref a11, .int 0]))] sz) := by
  refine vx_ofW (cc := cX5_keys) (maxL := 5) (ret := (some .int)) (by decide) rfl ?_
  intro p e s m args below meth c s₁ B hml htab hv
  obtain ⟨rfl, hsz, hP, hK, hD0, hE⟩ := hv
  have hx := B.exec
  have hb := B.bytes
  have hr := B.returns
  have ht : ∀ w ∈ xb, w.before _ s = true := fun w h => atoms_spec (ws := xw yX5_keys cX5_keys 5 (some .int)) B.pre w (List.mem_cons_of_mem _ h)
  have hown : s.vm.findClass RX5 = some m.cls := findClass_of_methodNamed B.named
  have hlocks := B.notSynchronized
  subst hsz
  have hAb := x_Ab hD0 hE.1
  have hD := hD0.self (sz := s.heap.size)
  generalize hAe : va_A [(h0, .inr (5, [.ref s0, .ref de, .ref kl, .ref tl, .ref cu, .ref hk, .ref ca, .int 0, .int 0, .int (-1), .int 0, .int 0])), (kl, .inr (2, [.ref kx, .ref ky, .int 0])), (tl, .inr (4, [.ref tx, .ref ty, .int 1])), (s0, .inr (3, [.ref a0, .ref a1, .ref a2, .ref a3, .ref a4, .ref a5, .ref a6, .int 0, .ref a7, .ref a8, .ref a9, .ref a10, .ref a11, .int 0]))] s.heap.size = A at hD hAb ⊢
  have hA : ∀ q : Nat, s.heap.size ≤ q → A q := fun q h => by rw [← hAe]; exact Or.inr h
  have hS : va_S A s.heap s.heap [] := va_S.rf
  have hP : va_P D vwCl [(h0, .inr (5, [.ref s0, .ref de, .ref kl, .ref tl, .ref cu, .ref hk, .ref ca, .int 0, .int 0, .int (-1), .int 0, .int 0])), (kl, .inr (2, [.ref kx, .ref ky, .int 0])), (tl, .inr (4, [.ref tx, .ref ty, .int 1])), (s0, .inr (3, [.ref a0, .ref a1, .ref a2, .ref a3, .ref a4, .ref a5, .ref a6, .int 0, .ref a7, .ref a8, .ref a9, .ref a10, .ref a11, .int 0]))] s.heap := hP
  have hl := lv_entry ([.ref h0, .int p0, .int p1]) (n := 5) (Nat.le_of_ble_eq_true rfl)
  rw [lg_entry_eq]
  generalize (lg_sl ([.ref h0, .int p0, .int p1]) ++ List.replicate (5 - (lg_sl ([.ref h0, .int p0, .int p1])).length) Slot.unset).toArray = ls at hl ⊢
  have hl : lv_has ls 5 [(0, .ref h0), (1, .int p0), (2, .int p1)] := hl
  refine lv_aload_n hx hb dX5_keys_0 rfl (lv_at hl 0 rfl) ?_
  have hPc := hP.sub (ws' := [(h0, .inr (5, [.ref s0, .ref de, .ref kl, .ref tl, .ref cu, .ref hk, .ref ca, .int 0, .int 0, .int (-1), .int 0, .int 0])), (kl, .inr (2, [.ref kx, .ref ky, .int 0])), (tl, .inr (4, [.ref tx, .ref ty, .int 1]))]) [0, 1, 2] rfl
  have hDc := hD.sub (ws' := [(h0, .inr (5, [.ref s0, .ref de, .ref kl, .ref tl, .ref cu, .ref hk, .ref ca, .int 0, .int 0, .int (-1), .int 0, .int 0])), (kl, .inr (2, [.ref kx, .ref ky, .int 0])), (tl, .inr (4, [.ref tx, .ref ty, .int 1]))]) [0, 1, 2] (by decide) rfl
  have hFc := va_free (wc := [(h0, .inr (5, [.ref s0, .ref de, .ref kl, .ref tl, .ref cu, .ref hk, .ref ca, .int 0, .int 0, .int (-1), .int 0, .int 0])), (kl, .inr (2, [.ref kx, .ref ky, .int 0])), (tl, .inr (4, [.ref tx, .ref ty, .int 1]))]) hD hS hA [0, 1, 2] rfl
  refine va_callv (va_runV (As := []) (rest := []) ⟨hx, hb, hml, hown, ht⟩ (k5_begin l D C b0 s.heap.size h0 s0 de kl tl cu hk ca kx ky tx ty) (cwV 0 ht (xg_V m_281 m_282 m_283 m_240 m_162) rfl rfl rfl (by decide +kernel) ⟨Nat.le_of_ble_eq_true rfl, Nat.le_of_ble_eq_true rfl⟩) ⟨xPc_bl, va_recv hK hPc (ci := 5) (q0 := 0) rfl rfl, xPc_at hPc hK hDc hE hS hAb⟩ rfl rfl hl.1 rfl (lv_room (Nat.le_of_ble_eq_true rfl)) dX5_keys_1 ⟨(by decide), (by decide)⟩) hS (fun q _ h => hFc q h) hFc (fun u_1 t H1 locs ht1 hvm hw hB hz1 hk1 hS => ?_)
  obtain ⟨hP1, hD1⟩ := hB
  rw [ht1] at hP1
  try dsimp only at hw
  obtain ⟨hP, hD⟩ := va_join (wr := [(s0, .inr (3, [.ref a0, .ref a1, .ref a2, .ref a3, .ref a4, .ref a5, .ref a6, .int 0, .ref a7, .ref a8, .ref a9, .ref a10, .ref a11, .int 0]))]) (w1 := [(h0, .inr (5, [.ref s0, .ref de, .ref kl, .ref tl, .ref cu, .ref hk, .ref ca, .int 0, .int 0, .int (-1), .int 0, .int 0])), (kl, .inr (2, [.ref kx, .ref ky, .int 0])), (tl, .inr (4, [.ref tx, .ref ty, .int 2]))]) hP hD [0, 1, 2] [3] rfl rfl (by decide) (by decide) hk1 hFc hP1 hD1
  generalize H1 = H at hP hS ⊢
  have hP : va_P D vwCl [(s0, .inr (3, [.ref a0, .ref a1, .ref a2, .ref a3, .ref a4, .ref a5, .ref a6, .int 0, .ref a7, .ref a8, .ref a9, .ref a10, .ref a11, .int 0])), (h0, .inr (5, [.ref s0, .ref de, .ref kl, .ref tl, .ref cu, .ref hk, .ref ca, .int 0, .int 0, .int (-1), .int 0, .int 0])), (kl, .inr (2, [.ref kx, .ref ky, .int 0])), (tl, .inr (4, [.ref tx, .ref ty, .int 2]))] H := hP
  have hD : va_D A [(s0, .inr (3, [.ref a0, .ref a1, .ref a2, .ref a3, .ref a4, .ref a5, .ref a6, .int 0, .ref a7, .ref a8, .ref a9, .ref a10, .ref a11, .int 0])), (h0, .inr (5, [.ref s0, .ref de, .ref kl, .ref tl, .ref cu, .ref hk, .ref ca, .int 0, .int 0, .int (-1), .int 0, .int 0])), (kl, .inr (2, [.ref kx, .ref ky, .int 0])), (tl, .inr (4, [.ref tx, .ref ty, .int 2]))] := hD
  have hq_1 := hw
  refine lv_aload_n hx hb dX5_keys_4 rfl (lv_at hl 0 rfl) ?_
  refine lv_iload_n hx hb dX5_keys_5 rfl (lv_at hl 1 rfl) ?_
  have hPc := hP.sub (ws' := [(h0, .inr (5, [.ref s0, .ref de, .ref kl, .ref tl, .ref cu, .ref hk, .ref ca, .int 0, .int 0, .int (-1), .int 0, .int 0])), (s0, .inr (3, [.ref a0, .ref a1, .ref a2, .ref a3, .ref a4, .ref a5, .ref a6, .int 0, .ref a7, .ref a8, .ref a9, .ref a10, .ref a11, .int 0]))]) [1, 0] rfl
  have hDc := hD.sub (ws' := [(h0, .inr (5, [.ref s0, .ref de, .ref kl, .ref tl, .ref cu, .ref hk, .ref ca, .int 0, .int 0, .int (-1), .int 0, .int 0])), (s0, .inr (3, [.ref a0, .ref a1, .ref a2, .ref a3, .ref a4, .ref a5, .ref a6, .int 0, .ref a7, .ref a8, .ref a9, .ref a10, .ref a11, .int 0]))]) [1, 0] (by decide) rfl
  have hFc := va_free (wc := [(h0, .inr (5, [.ref s0, .ref de, .ref kl, .ref tl, .ref cu, .ref hk, .ref ca, .int 0, .int 0, .int (-1), .int 0, .int 0])), (s0, .inr (3, [.ref a0, .ref a1, .ref a2, .ref a3, .ref a4, .ref a5, .ref a6, .int 0, .ref a7, .ref a8, .ref a9, .ref a10, .ref a11, .int 0]))]) hD hS hA [1, 0] rfl
  refine vx_callv (vx_runV (As := [.int p0]) (rest := []) ⟨hx, hb, hml, hown, ht⟩ (k5_requireObject l hl0 D C b0 H.size h0 s0 de kl tl cu hk ca a0 a1 a2 a3 a4 a5 a6 a7 a8 a9 a10 a11 p0) (cwV 1 ht (xg_V m_237 m_238 m_239 m_240 m_163) rfl rfl rfl (by decide +kernel) ⟨Nat.le_of_ble_eq_true rfl, Nat.le_of_ble_eq_true rfl⟩) ⟨xPc_bl, va_recv hK hPc (ci := 5) (q0 := 0) rfl rfl, xPc_at hPc hK hDc hE hS hAb⟩ rfl rfl hl.1 rfl (lv_room (Nat.le_of_ble_eq_true rfl)) dX5_keys_6 ⟨(by decide), (by decide)⟩) hS (fun q _ h => hFc q h) hFc (fun q _ h => hFc q h) (fun E ce q9 u9 t9 H9 locs9 e9 v9 p9 b9 z9 k9 hS9 hc9 hn9 hf9 => ?_) (fun u_2 t H1 locs ht1 hvm hw hB hz1 hk1 hS => ?_)
  · skip
    obtain rfl := b9
    exact vx_out (mc := 3) (ms := 18) (fun x hx => (htab x hx).elim) hlocks hc9 hn9 hf9 (fun t ht1 hW1 => ⟨(), by first | exact p9 | trivial | assumption | (simp_all; done), rfl, hS9.F ht1⟩) hS9.2.2 (by decide) (by decide)
  · exact hw.elim
set_option maxHeartbeats 4000000 in
set_option maxRecDepth 100000 in
theorem k5_parent (l : Launch) (hl0 : l.stackTraces = false) (D : va_G) (C : Nat → ClassId) (b0 sz : Nat) (h0 : Nat) (s0 : Nat) (de : Nat) (kl : Nat) (tl : Nat) (cu : Nat) (hk : Nat) (ca : Nat) (kx : Nat) (ky : Nat) (tx : Nat) (ty : Nat) (a0 : Nat) (a1 : Nat) (a2 : Nat) (a3 : Nat) (a4 : Nat) (a5 : Nat) (a6 : Nat) (a7 : Nat) (a8 : Nat) (a9 : Nat) (a10 : Nat) (a11 : Nat) (p0 : Int32) : vx_Met l yX5_parent (xw yX5_parent cX5_parent 2 (some .int)) ({ frames := 48, cells := 3, slots := 18, locals := 900 }) (xPc D C b0 [.ref h0, .int p0] [(h0, .inr (5, [.ref s0, .ref de, .ref kl, .ref tl, .ref cu, .ref hk, .ref ca, .int 0, .int 0, .int (-1), .int 0, .int 0])), (kl, .inr (2, [.ref kx, .ref ky, .int 0])), (tl, .inr (4, [.ref tx, .ref ty, .int 1])), (s0, .inr (3, [.ref a0, .ref a1, .ref a2, .ref a3, .ref a4, .ref a5, .ref a6, .int 0, .ref a7, .ref a8, .ref a9, .ref a10, .ref a11, .int 0]))] sz) (va_Qi (fun (r : Int32) (u : xS) => False) (xBw D (va_A [(h0, .inr (5, [.ref s0, .ref de, .ref kl, .ref tl, .ref cu, .ref hk, .ref ca, .int 0, .int 0, .int (-1), .int 0, .int 0])), (kl, .inr (2, [.ref kx, .ref ky, .int 0])), (tl, .inr (4, [.ref tx, .ref ty, .int 1])), (s0, .inr (3, [.ref a0, .ref a1, .ref a2, .ref a3, .ref a4, .ref a5, .ref a6, .int 0, .ref a7, .ref a8, .ref a9, .ref a10, .ref a11, .int 0]))] sz) (fun u => [])) (va_A [(h0, .inr (5, [.ref s0, .ref de, .ref kl, .ref tl, .ref cu, .ref hk, .ref ca, .int 0, .int 0, .int (-1), .int 0, .int 0])), (kl, .inr (2, [.ref kx, .ref ky, .int 0])), (tl, .inr (4, [.ref tx, .ref ty, .int 1])), (s0, .inr (3, [.ref a0, .ref a1, .ref a2, .ref a3, .ref a4, .ref a5, .ref a6, .int 0, .ref a7, .ref a8, .ref a9, .ref a10, .ref a11, .int 0]))] sz)) (xX xIAE (True) (va_A [(h0, .inr (5, [.ref s0, .ref de, .ref kl, .ref tl, .ref cu, .ref hk, .ref ca, .int 0, .int 0, .int (-1), .int 0, .int 0])), (kl, .inr (2, [.ref kx, .ref ky, .int 0])), (tl, .inr (4, [.ref tx, .ref ty, .int 1])), (s0, .inr (3, [.ref a0, .ref a1, .ref a2, .ref a3, .ref a4, .ref a5, .ref a6, .int 0, .ref a7, .ref a8, .ref a9, .ref a10, .ref a11, .int 0]))] sz)) 3 18 (va_A [(h0, .inr (5, [.ref s0, .ref de, .ref kl, .ref tl, .ref cu, .ref hk, .ref ca, .int 0, .int 0, .int (-1), .int 0, .int 0])), (kl, .inr (2, [.ref kx, .ref ky, .int 0])), (tl, .inr (4, [.ref tx, .ref ty, .int 1])), (s0, .inr (3, [.ref a0, .ref a1, .ref a2, .ref a3, .ref a4, .ref a5, .ref a6, .int 0, .ref a7, .ref a8, .ref a9, .ref a10, .ref a11, .int 0]))] sz) := by
  refine vx_ofW (cc := cX5_parent) (maxL := 2) (ret := (some .int)) (by decide) rfl ?_
  intro p e s m args below meth c s₁ B hml htab hv
  obtain ⟨rfl, hsz, hP, hK, hD0, hE⟩ := hv
  have hx := B.exec
  have hb := B.bytes
  have hr := B.returns
  have ht : ∀ w ∈ xb, w.before _ s = true := fun w h => atoms_spec (ws := xw yX5_parent cX5_parent 2 (some .int)) B.pre w (List.mem_cons_of_mem _ h)
  have hown : s.vm.findClass RX5 = some m.cls := findClass_of_methodNamed B.named
  have hlocks := B.notSynchronized
  subst hsz
  have hAb := x_Ab hD0 hE.1
  have hD := hD0.self (sz := s.heap.size)
  generalize hAe : va_A [(h0, .inr (5, [.ref s0, .ref de, .ref kl, .ref tl, .ref cu, .ref hk, .ref ca, .int 0, .int 0, .int (-1), .int 0, .int 0])), (kl, .inr (2, [.ref kx, .ref ky, .int 0])), (tl, .inr (4, [.ref tx, .ref ty, .int 1])), (s0, .inr (3, [.ref a0, .ref a1, .ref a2, .ref a3, .ref a4, .ref a5, .ref a6, .int 0, .ref a7, .ref a8, .ref a9, .ref a10, .ref a11, .int 0]))] s.heap.size = A at hD hAb ⊢
  have hA : ∀ q : Nat, s.heap.size ≤ q → A q := fun q h => by rw [← hAe]; exact Or.inr h
  have hS : va_S A s.heap s.heap [] := va_S.rf
  have hP : va_P D vwCl [(h0, .inr (5, [.ref s0, .ref de, .ref kl, .ref tl, .ref cu, .ref hk, .ref ca, .int 0, .int 0, .int (-1), .int 0, .int 0])), (kl, .inr (2, [.ref kx, .ref ky, .int 0])), (tl, .inr (4, [.ref tx, .ref ty, .int 1])), (s0, .inr (3, [.ref a0, .ref a1, .ref a2, .ref a3, .ref a4, .ref a5, .ref a6, .int 0, .ref a7, .ref a8, .ref a9, .ref a10, .ref a11, .int 0]))] s.heap := hP
  have hl := lv_entry ([.ref h0, .int p0]) (n := 2) (Nat.le_of_ble_eq_true rfl)
  rw [lg_entry_eq]
  generalize (lg_sl ([.ref h0, .int p0]) ++ List.replicate (2 - (lg_sl ([.ref h0, .int p0])).length) Slot.unset).toArray = ls at hl ⊢
  have hl : lv_has ls 2 [(0, .ref h0), (1, .int p0)] := hl
  refine lv_aload_n hx hb dX5_parent_0 rfl (lv_at hl 0 rfl) ?_
  have hPc := hP.sub (ws' := [(h0, .inr (5, [.ref s0, .ref de, .ref kl, .ref tl, .ref cu, .ref hk, .ref ca, .int 0, .int 0, .int (-1), .int 0, .int 0])), (kl, .inr (2, [.ref kx, .ref ky, .int 0])), (tl, .inr (4, [.ref tx, .ref ty, .int 1]))]) [0, 1, 2] rfl
  have hDc := hD.sub (ws' := [(h0, .inr (5, [.ref s0, .ref de, .ref kl, .ref tl, .ref cu, .ref hk, .ref ca, .int 0, .int 0, .int (-1), .int 0, .int 0])), (kl, .inr (2, [.ref kx, .ref ky, .int 0])), (tl, .inr (4, [.ref tx, .ref ty, .int 1]))]) [0, 1, 2] (by decide) rfl
  have hFc := va_free (wc := [(h0, .inr (5, [.ref s0, .ref de, .ref kl, .ref tl, .ref cu, .ref hk, .ref ca, .int 0, .int 0, .int (-1), .int 0, .int 0])), (kl, .inr (2, [.ref kx, .ref ky, .int 0])), (tl, .inr (4, [.ref tx, .ref ty, .int 1]))]) hD hS hA [0, 1, 2] rfl
  refine va_callv (va_runV (As := []) (rest := []) ⟨hx, hb, hml, hown, ht⟩ (k5_begin l D C b0 s.heap.size h0 s0 de kl tl cu hk ca kx ky tx ty) (cwV 0 ht (xg_V m_281 m_282 m_283 m_240 m_162) rfl rfl rfl (by decide +kernel) ⟨Nat.le_of_ble_eq_true rfl, Nat.le_of_ble_eq_true rfl⟩) ⟨xPc_bl, va_recv hK hPc (ci := 5) (q0 := 0) rfl rfl, xPc_at hPc hK hDc hE hS hAb⟩ rfl rfl hl.1 rfl (lv_room (Nat.le_of_ble_eq_true rfl)) dX5_parent_1 ⟨(by decide), (by decide)⟩) hS (fun q _ h => hFc q h) hFc (fun u_1 t H1 locs ht1 hvm hw hB hz1 hk1 hS => ?_)
  obtain ⟨hP1, hD1⟩ := hB
  rw [ht1] at hP1
  try dsimp only at hw
  obtain ⟨hP, hD⟩ := va_join (wr := [(s0, .inr (3, [.ref a0, .ref a1, .ref a2, .ref a3, .ref a4, .ref a5, .ref a6, .int 0, .ref a7, .ref a8, .ref a9, .ref a10, .ref a11, .int 0]))]) (w1 := [(h0, .inr (5, [.ref s0, .ref de, .ref kl, .ref tl, .ref cu, .ref hk, .ref ca, .int 0, .int 0, .int (-1), .int 0, .int 0])), (kl, .inr (2, [.ref kx, .ref ky, .int 0])), (tl, .inr (4, [.ref tx, .ref ty, .int 2]))]) hP hD [0, 1, 2] [3] rfl rfl (by decide) (by decide) hk1 hFc hP1 hD1
  generalize H1 = H at hP hS ⊢
  have hP : va_P D vwCl [(s0, .inr (3, [.ref a0, .ref a1, .ref a2, .ref a3, .ref a4, .ref a5, .ref a6, .int 0, .ref a7, .ref a8, .ref a9, .ref a10, .ref a11, .int 0])), (h0, .inr (5, [.ref s0, .ref de, .ref kl, .ref tl, .ref cu, .ref hk, .ref ca, .int 0, .int 0, .int (-1), .int 0, .int 0])), (kl, .inr (2, [.ref kx, .ref ky, .int 0])), (tl, .inr (4, [.ref tx, .ref ty, .int 2]))] H := hP
  have hD : va_D A [(s0, .inr (3, [.ref a0, .ref a1, .ref a2, .ref a3, .ref a4, .ref a5, .ref a6, .int 0, .ref a7, .ref a8, .ref a9, .ref a10, .ref a11, .int 0])), (h0, .inr (5, [.ref s0, .ref de, .ref kl, .ref tl, .ref cu, .ref hk, .ref ca, .int 0, .int 0, .int (-1), .int 0, .int 0])), (kl, .inr (2, [.ref kx, .ref ky, .int 0])), (tl, .inr (4, [.ref tx, .ref ty, .int 2]))] := hD
  have hq_1 := hw
  refine lv_aload_n hx hb dX5_parent_4 rfl (lv_at hl 0 rfl) ?_
  refine lv_iload_n hx hb dX5_parent_5 rfl (lv_at hl 1 rfl) ?_
  have hPc := hP.sub (ws' := [(h0, .inr (5, [.ref s0, .ref de, .ref kl, .ref tl, .ref cu, .ref hk, .ref ca, .int 0, .int 0, .int (-1), .int 0, .int 0])), (s0, .inr (3, [.ref a0, .ref a1, .ref a2, .ref a3, .ref a4, .ref a5, .ref a6, .int 0, .ref a7, .ref a8, .ref a9, .ref a10, .ref a11, .int 0]))]) [1, 0] rfl
  have hDc := hD.sub (ws' := [(h0, .inr (5, [.ref s0, .ref de, .ref kl, .ref tl, .ref cu, .ref hk, .ref ca, .int 0, .int 0, .int (-1), .int 0, .int 0])), (s0, .inr (3, [.ref a0, .ref a1, .ref a2, .ref a3, .ref a4, .ref a5, .ref a6, .int 0, .ref a7, .ref a8, .ref a9, .ref a10, .ref a11, .int 0]))]) [1, 0] (by decide) rfl
  have hFc := va_free (wc := [(h0, .inr (5, [.ref s0, .ref de, .ref kl, .ref tl, .ref cu, .ref hk, .ref ca, .int 0, .int 0, .int (-1), .int 0, .int 0])), (s0, .inr (3, [.ref a0, .ref a1, .ref a2, .ref a3, .ref a4, .ref a5, .ref a6, .int 0, .ref a7, .ref a8, .ref a9, .ref a10, .ref a11, .int 0]))]) hD hS hA [1, 0] rfl
  refine vx_callv (vx_runV (As := [.int p0]) (rest := []) ⟨hx, hb, hml, hown, ht⟩ (k5_requireObject l hl0 D C b0 H.size h0 s0 de kl tl cu hk ca a0 a1 a2 a3 a4 a5 a6 a7 a8 a9 a10 a11 p0) (cwV 1 ht (xg_V m_237 m_238 m_239 m_240 m_163) rfl rfl rfl (by decide +kernel) ⟨Nat.le_of_ble_eq_true rfl, Nat.le_of_ble_eq_true rfl⟩) ⟨xPc_bl, va_recv hK hPc (ci := 5) (q0 := 0) rfl rfl, xPc_at hPc hK hDc hE hS hAb⟩ rfl rfl hl.1 rfl (lv_room (Nat.le_of_ble_eq_true rfl)) dX5_parent_6 ⟨(by decide), (by decide)⟩) hS (fun q _ h => hFc q h) hFc (fun q _ h => hFc q h) (fun E ce q9 u9 t9 H9 locs9 e9 v9 p9 b9 z9 k9 hS9 hc9 hn9 hf9 => ?_) (fun u_2 t H1 locs ht1 hvm hw hB hz1 hk1 hS => ?_)
  · skip
    obtain rfl := b9
    exact vx_out (mc := 3) (ms := 18) (fun x hx => (htab x hx).elim) hlocks hc9 hn9 hf9 (fun t ht1 hW1 => ⟨(), by first | exact p9 | trivial | assumption | (simp_all; done), rfl, hS9.F ht1⟩) hS9.2.2 (by decide) (by decide)
  · exact hw.elim
set_option maxHeartbeats 4000000 in
set_option maxRecDepth 100000 in
theorem k5_setParent (l : Launch) (hl0 : l.stackTraces = false) (D : va_G) (C : Nat → ClassId) (b0 sz : Nat) (h0 : Nat) (s0 : Nat) (de : Nat) (kl : Nat) (tl : Nat) (cu : Nat) (hk : Nat) (ca : Nat) (kx : Nat) (ky : Nat) (tx : Nat) (ty : Nat) (a0 : Nat) (a1 : Nat) (a2 : Nat) (a3 : Nat) (a4 : Nat) (a5 : Nat) (a6 : Nat) (a7 : Nat) (a8 : Nat) (a9 : Nat) (a10 : Nat) (a11 : Nat) (p0 : Int32) (p1 : Int32) : vx_Met l yX5_setParent (xw yX5_setParent cX5_setParent 3 (some .boolean)) ({ frames := 48, cells := 3, slots := 18, locals := 900 }) (xPc D C b0 [.ref h0, .int p0, .int p1] [(h0, .inr (5, [.ref s0, .ref de, .ref kl, .ref tl, .ref cu, .ref hk, .ref ca, .int 0, .int 0, .int (-1), .int 0, .int 0])), (kl, .inr (2, [.ref kx, .ref ky, .int 0])), (tl, .inr (4, [.ref tx, .ref ty, .int 1])), (s0, .inr (3, [.ref a0, .ref a1, .ref a2, .ref a3, .ref a4, .ref a5, .ref a6, .int 0, .ref a7, .ref a8, .ref a9, .ref a10, .ref a11, .int 0]))] sz) (va_Qi (fun (r : Int32) (u : xS) => False) (xBw D (va_A [(h0, .inr (5, [.ref s0, .ref de, .ref kl, .ref tl, .ref cu, .ref hk, .ref ca, .int 0, .int 0, .int (-1), .int 0, .int 0])), (kl, .inr (2, [.ref kx, .ref ky, .int 0])), (tl, .inr (4, [.ref tx, .ref ty, .int 1])), (s0, .inr (3, [.ref a0, .ref a1, .ref a2, .ref a3, .ref a4, .ref a5, .ref a6, .int 0, .ref a7, .ref a8, .ref a9, .ref a10, .ref a11, .int 0]))] sz) (fun u => [])) (va_A [(h0, .inr (5, [.ref s0, .ref de, .ref kl, .ref tl, .ref cu, .ref hk, .ref ca, .int 0, .int 0, .int (-1), .int 0, .int 0])), (kl, .inr (2, [.ref kx, .ref ky, .int 0])), (tl, .inr (4, [.ref tx, .ref ty, .int 1])), (s0, .inr (3, [.ref a0, .ref a1, .ref a2, .ref a3, .ref a4, .ref a5, .ref a6, .int 0, .ref a7, .ref a8, .ref a9, .ref a10, .ref a11, .int 0]))] sz)) (xX xIAE (True) (va_A [(h0, .inr (5, [.ref s0, .ref de, .ref kl, .ref tl, .ref cu, .ref hk, .ref ca, .int 0, .int 0, .int (-1), .int 0, .int 0])), (kl, .inr (2, [.ref kx, .ref ky, .int 0])), (tl, .inr (4, [.ref tx, .ref ty, .int 1])), (s0, .inr (3, [.ref a0, .ref a1, .ref a2, .ref a3, .ref a4, .ref a5, .ref a6, .int 0, .ref a7, .ref a8, .ref a9, .ref a10, .ref a11, .int 0]))] sz)) 3 18 (va_A [(h0, .inr (5, [.ref s0, .ref de, .ref kl, .ref tl, .ref cu, .ref hk, .ref ca, .int 0, .int 0, .int (-1), .int 0, .int 0])), (kl, .inr (2, [.ref kx, .ref ky, .int 0])), (tl, .inr (4, [.ref tx, .ref ty, .int 1])), (s0, .inr (3, [.ref a0, .ref a1, .ref a2, .ref a3, .ref a4, .ref a5, .ref a6, .int 0, .ref a7, .ref a8, .ref a9, .ref a10, .ref a11, .int 0]))] sz) := by
  refine vx_ofW (cc := cX5_setParent) (maxL := 3) (ret := (some .boolean)) (by decide) rfl ?_
  intro p e s m args below meth c s₁ B hml htab hv
  obtain ⟨rfl, hsz, hP, hK, hD0, hE⟩ := hv
  have hx := B.exec
  have hb := B.bytes
  have hr := B.returns
  have ht : ∀ w ∈ xb, w.before _ s = true := fun w h => atoms_spec (ws := xw yX5_setParent cX5_setParent 3 (some .boolean)) B.pre w (List.mem_cons_of_mem _ h)
  have hown : s.vm.findClass RX5 = some m.cls := findClass_of_methodNamed B.named
  have hlocks := B.notSynchronized
  subst hsz
  have hAb := x_Ab hD0 hE.1
  have hD := hD0.self (sz := s.heap.size)
  generalize hAe : va_A [(h0, .inr (5, [.ref s0, .ref de, .ref kl, .ref tl, .ref cu, .ref hk, .ref ca, .int 0, .int 0, .int (-1), .int 0, .int 0])), (kl, .inr (2, [.ref kx, .ref ky, .int 0])), (tl, .inr (4, [.ref tx, .ref ty, .int 1])), (s0, .inr (3, [.ref a0, .ref a1, .ref a2, .ref a3, .ref a4, .ref a5, .ref a6, .int 0, .ref a7, .ref a8, .ref a9, .ref a10, .ref a11, .int 0]))] s.heap.size = A at hD hAb ⊢
  have hA : ∀ q : Nat, s.heap.size ≤ q → A q := fun q h => by rw [← hAe]; exact Or.inr h
  have hS : va_S A s.heap s.heap [] := va_S.rf
  have hP : va_P D vwCl [(h0, .inr (5, [.ref s0, .ref de, .ref kl, .ref tl, .ref cu, .ref hk, .ref ca, .int 0, .int 0, .int (-1), .int 0, .int 0])), (kl, .inr (2, [.ref kx, .ref ky, .int 0])), (tl, .inr (4, [.ref tx, .ref ty, .int 1])), (s0, .inr (3, [.ref a0, .ref a1, .ref a2, .ref a3, .ref a4, .ref a5, .ref a6, .int 0, .ref a7, .ref a8, .ref a9, .ref a10, .ref a11, .int 0]))] s.heap := hP
  have hl := lv_entry ([.ref h0, .int p0, .int p1]) (n := 3) (Nat.le_of_ble_eq_true rfl)
  rw [lg_entry_eq]
  generalize (lg_sl ([.ref h0, .int p0, .int p1]) ++ List.replicate (3 - (lg_sl ([.ref h0, .int p0, .int p1])).length) Slot.unset).toArray = ls at hl ⊢
  have hl : lv_has ls 3 [(0, .ref h0), (1, .int p0), (2, .int p1)] := hl
  refine lv_aload_n hx hb dX5_setParent_0 rfl (lv_at hl 0 rfl) ?_
  have hPc := hP.sub (ws' := [(h0, .inr (5, [.ref s0, .ref de, .ref kl, .ref tl, .ref cu, .ref hk, .ref ca, .int 0, .int 0, .int (-1), .int 0, .int 0])), (kl, .inr (2, [.ref kx, .ref ky, .int 0])), (tl, .inr (4, [.ref tx, .ref ty, .int 1]))]) [0, 1, 2] rfl
  have hDc := hD.sub (ws' := [(h0, .inr (5, [.ref s0, .ref de, .ref kl, .ref tl, .ref cu, .ref hk, .ref ca, .int 0, .int 0, .int (-1), .int 0, .int 0])), (kl, .inr (2, [.ref kx, .ref ky, .int 0])), (tl, .inr (4, [.ref tx, .ref ty, .int 1]))]) [0, 1, 2] (by decide) rfl
  have hFc := va_free (wc := [(h0, .inr (5, [.ref s0, .ref de, .ref kl, .ref tl, .ref cu, .ref hk, .ref ca, .int 0, .int 0, .int (-1), .int 0, .int 0])), (kl, .inr (2, [.ref kx, .ref ky, .int 0])), (tl, .inr (4, [.ref tx, .ref ty, .int 1]))]) hD hS hA [0, 1, 2] rfl
  refine va_callv (va_runV (As := []) (rest := []) ⟨hx, hb, hml, hown, ht⟩ (k5_begin l D C b0 s.heap.size h0 s0 de kl tl cu hk ca kx ky tx ty) (cwV 0 ht (xg_V m_281 m_282 m_283 m_240 m_162) rfl rfl rfl (by decide +kernel) ⟨Nat.le_of_ble_eq_true rfl, Nat.le_of_ble_eq_true rfl⟩) ⟨xPc_bl, va_recv hK hPc (ci := 5) (q0 := 0) rfl rfl, xPc_at hPc hK hDc hE hS hAb⟩ rfl rfl hl.1 rfl (lv_room (Nat.le_of_ble_eq_true rfl)) dX5_setParent_1 ⟨(by decide), (by decide)⟩) hS (fun q _ h => hFc q h) hFc (fun u_1 t H1 locs ht1 hvm hw hB hz1 hk1 hS => ?_)
  obtain ⟨hP1, hD1⟩ := hB
  rw [ht1] at hP1
  try dsimp only at hw
  obtain ⟨hP, hD⟩ := va_join (wr := [(s0, .inr (3, [.ref a0, .ref a1, .ref a2, .ref a3, .ref a4, .ref a5, .ref a6, .int 0, .ref a7, .ref a8, .ref a9, .ref a10, .ref a11, .int 0]))]) (w1 := [(h0, .inr (5, [.ref s0, .ref de, .ref kl, .ref tl, .ref cu, .ref hk, .ref ca, .int 0, .int 0, .int (-1), .int 0, .int 0])), (kl, .inr (2, [.ref kx, .ref ky, .int 0])), (tl, .inr (4, [.ref tx, .ref ty, .int 2]))]) hP hD [0, 1, 2] [3] rfl rfl (by decide) (by decide) hk1 hFc hP1 hD1
  generalize H1 = H at hP hS ⊢
  have hP : va_P D vwCl [(s0, .inr (3, [.ref a0, .ref a1, .ref a2, .ref a3, .ref a4, .ref a5, .ref a6, .int 0, .ref a7, .ref a8, .ref a9, .ref a10, .ref a11, .int 0])), (h0, .inr (5, [.ref s0, .ref de, .ref kl, .ref tl, .ref cu, .ref hk, .ref ca, .int 0, .int 0, .int (-1), .int 0, .int 0])), (kl, .inr (2, [.ref kx, .ref ky, .int 0])), (tl, .inr (4, [.ref tx, .ref ty, .int 2]))] H := hP
  have hD : va_D A [(s0, .inr (3, [.ref a0, .ref a1, .ref a2, .ref a3, .ref a4, .ref a5, .ref a6, .int 0, .ref a7, .ref a8, .ref a9, .ref a10, .ref a11, .int 0])), (h0, .inr (5, [.ref s0, .ref de, .ref kl, .ref tl, .ref cu, .ref hk, .ref ca, .int 0, .int 0, .int (-1), .int 0, .int 0])), (kl, .inr (2, [.ref kx, .ref ky, .int 0])), (tl, .inr (4, [.ref tx, .ref ty, .int 2]))] := hD
  have hq_1 := hw
  refine lv_aload_n hx hb dX5_setParent_4 rfl (lv_at hl 0 rfl) ?_
  refine lv_iload_n hx hb dX5_setParent_5 rfl (lv_at hl 1 rfl) ?_
  have hPc := hP.sub (ws' := [(h0, .inr (5, [.ref s0, .ref de, .ref kl, .ref tl, .ref cu, .ref hk, .ref ca, .int 0, .int 0, .int (-1), .int 0, .int 0])), (s0, .inr (3, [.ref a0, .ref a1, .ref a2, .ref a3, .ref a4, .ref a5, .ref a6, .int 0, .ref a7, .ref a8, .ref a9, .ref a10, .ref a11, .int 0]))]) [1, 0] rfl
  have hDc := hD.sub (ws' := [(h0, .inr (5, [.ref s0, .ref de, .ref kl, .ref tl, .ref cu, .ref hk, .ref ca, .int 0, .int 0, .int (-1), .int 0, .int 0])), (s0, .inr (3, [.ref a0, .ref a1, .ref a2, .ref a3, .ref a4, .ref a5, .ref a6, .int 0, .ref a7, .ref a8, .ref a9, .ref a10, .ref a11, .int 0]))]) [1, 0] (by decide) rfl
  have hFc := va_free (wc := [(h0, .inr (5, [.ref s0, .ref de, .ref kl, .ref tl, .ref cu, .ref hk, .ref ca, .int 0, .int 0, .int (-1), .int 0, .int 0])), (s0, .inr (3, [.ref a0, .ref a1, .ref a2, .ref a3, .ref a4, .ref a5, .ref a6, .int 0, .ref a7, .ref a8, .ref a9, .ref a10, .ref a11, .int 0]))]) hD hS hA [1, 0] rfl
  refine vx_callv (vx_runV (As := [.int p0]) (rest := []) ⟨hx, hb, hml, hown, ht⟩ (k5_requireObject l hl0 D C b0 H.size h0 s0 de kl tl cu hk ca a0 a1 a2 a3 a4 a5 a6 a7 a8 a9 a10 a11 p0) (cwV 1 ht (xg_V m_237 m_238 m_239 m_240 m_163) rfl rfl rfl (by decide +kernel) ⟨Nat.le_of_ble_eq_true rfl, Nat.le_of_ble_eq_true rfl⟩) ⟨xPc_bl, va_recv hK hPc (ci := 5) (q0 := 0) rfl rfl, xPc_at hPc hK hDc hE hS hAb⟩ rfl rfl hl.1 rfl (lv_room (Nat.le_of_ble_eq_true rfl)) dX5_setParent_6 ⟨(by decide), (by decide)⟩) hS (fun q _ h => hFc q h) hFc (fun q _ h => hFc q h) (fun E ce q9 u9 t9 H9 locs9 e9 v9 p9 b9 z9 k9 hS9 hc9 hn9 hf9 => ?_) (fun u_2 t H1 locs ht1 hvm hw hB hz1 hk1 hS => ?_)
  · skip
    obtain rfl := b9
    exact vx_out (mc := 3) (ms := 18) (fun x hx => (htab x hx).elim) hlocks hc9 hn9 hf9 (fun t ht1 hW1 => ⟨(), by first | exact p9 | trivial | assumption | (simp_all; done), rfl, hS9.F ht1⟩) hS9.2.2 (by decide) (by decide)
  · exact hw.elim
set_option maxHeartbeats 4000000 in
set_option maxRecDepth 100000 in
theorem k5_open (l : Launch) (hl0 : l.stackTraces = false) (D : va_G) (C : Nat → ClassId) (b0 sz : Nat) (h0 : Nat) (s0 : Nat) (de : Nat) (kl : Nat) (tl : Nat) (cu : Nat) (hk : Nat) (ca : Nat) (kx : Nat) (ky : Nat) (tx : Nat) (ty : Nat) (a0 : Nat) (a1 : Nat) (a2 : Nat) (a3 : Nat) (a4 : Nat) (a5 : Nat) (a6 : Nat) (a7 : Nat) (a8 : Nat) (a9 : Nat) (a10 : Nat) (a11 : Nat) (p0 : Int32) : vx_Met l yX5_open (xw yX5_open cX5_open 2 (some .boolean)) ({ frames := 48, cells := 3, slots := 18, locals := 900 }) (xPc D C b0 [.ref h0, .int p0] [(h0, .inr (5, [.ref s0, .ref de, .ref kl, .ref tl, .ref cu, .ref hk, .ref ca, .int 0, .int 0, .int (-1), .int 0, .int 0])), (kl, .inr (2, [.ref kx, .ref ky, .int 0])), (tl, .inr (4, [.ref tx, .ref ty, .int 1])), (s0, .inr (3, [.ref a0, .ref a1, .ref a2, .ref a3, .ref a4, .ref a5, .ref a6, .int 0, .ref a7, .ref a8, .ref a9, .ref a10, .ref a11, .int 0]))] sz) (va_Qi (fun (r : Int32) (u : xS) => False) (xBw D (va_A [(h0, .inr (5, [.ref s0, .ref de, .ref kl, .ref tl, .ref cu, .ref hk, .ref ca, .int 0, .int 0, .int (-1), .int 0, .int 0])), (kl, .inr (2, [.ref kx, .ref ky, .int 0])), (tl, .inr (4, [.ref tx, .ref ty, .int 1])), (s0, .inr (3, [.ref a0, .ref a1, .ref a2, .ref a3, .ref a4, .ref a5, .ref a6, .int 0, .ref a7, .ref a8, .ref a9, .ref a10, .ref a11, .int 0]))] sz) (fun u => [])) (va_A [(h0, .inr (5, [.ref s0, .ref de, .ref kl, .ref tl, .ref cu, .ref hk, .ref ca, .int 0, .int 0, .int (-1), .int 0, .int 0])), (kl, .inr (2, [.ref kx, .ref ky, .int 0])), (tl, .inr (4, [.ref tx, .ref ty, .int 1])), (s0, .inr (3, [.ref a0, .ref a1, .ref a2, .ref a3, .ref a4, .ref a5, .ref a6, .int 0, .ref a7, .ref a8, .ref a9, .ref a10, .ref a11, .int 0]))] sz)) (xX xIAE (True) (va_A [(h0, .inr (5, [.ref s0, .ref de, .ref kl, .ref tl, .ref cu, .ref hk, .ref ca, .int 0, .int 0, .int (-1), .int 0, .int 0])), (kl, .inr (2, [.ref kx, .ref ky, .int 0])), (tl, .inr (4, [.ref tx, .ref ty, .int 1])), (s0, .inr (3, [.ref a0, .ref a1, .ref a2, .ref a3, .ref a4, .ref a5, .ref a6, .int 0, .ref a7, .ref a8, .ref a9, .ref a10, .ref a11, .int 0]))] sz)) 3 18 (va_A [(h0, .inr (5, [.ref s0, .ref de, .ref kl, .ref tl, .ref cu, .ref hk, .ref ca, .int 0, .int 0, .int (-1), .int 0, .int 0])), (kl, .inr (2, [.ref kx, .ref ky, .int 0])), (tl, .inr (4, [.ref tx, .ref ty, .int 1])), (s0, .inr (3, [.ref a0, .ref a1, .ref a2, .ref a3, .ref a4, .ref a5, .ref a6, .int 0, .ref a7, .ref a8, .ref a9, .ref a10, .ref a11, .int 0]))] sz) := by
  refine vx_ofW (cc := cX5_open) (maxL := 2) (ret := (some .boolean)) (by decide) rfl ?_
  intro p e s m args below meth c s₁ B hml htab hv
  obtain ⟨rfl, hsz, hP, hK, hD0, hE⟩ := hv
  have hx := B.exec
  have hb := B.bytes
  have hr := B.returns
  have ht : ∀ w ∈ xb, w.before _ s = true := fun w h => atoms_spec (ws := xw yX5_open cX5_open 2 (some .boolean)) B.pre w (List.mem_cons_of_mem _ h)
  have hown : s.vm.findClass RX5 = some m.cls := findClass_of_methodNamed B.named
  have hlocks := B.notSynchronized
  subst hsz
  have hAb := x_Ab hD0 hE.1
  have hD := hD0.self (sz := s.heap.size)
  generalize hAe : va_A [(h0, .inr (5, [.ref s0, .ref de, .ref kl, .ref tl, .ref cu, .ref hk, .ref ca, .int 0, .int 0, .int (-1), .int 0, .int 0])), (kl, .inr (2, [.ref kx, .ref ky, .int 0])), (tl, .inr (4, [.ref tx, .ref ty, .int 1])), (s0, .inr (3, [.ref a0, .ref a1, .ref a2, .ref a3, .ref a4, .ref a5, .ref a6, .int 0, .ref a7, .ref a8, .ref a9, .ref a10, .ref a11, .int 0]))] s.heap.size = A at hD hAb ⊢
  have hA : ∀ q : Nat, s.heap.size ≤ q → A q := fun q h => by rw [← hAe]; exact Or.inr h
  have hS : va_S A s.heap s.heap [] := va_S.rf
  have hP : va_P D vwCl [(h0, .inr (5, [.ref s0, .ref de, .ref kl, .ref tl, .ref cu, .ref hk, .ref ca, .int 0, .int 0, .int (-1), .int 0, .int 0])), (kl, .inr (2, [.ref kx, .ref ky, .int 0])), (tl, .inr (4, [.ref tx, .ref ty, .int 1])), (s0, .inr (3, [.ref a0, .ref a1, .ref a2, .ref a3, .ref a4, .ref a5, .ref a6, .int 0, .ref a7, .ref a8, .ref a9, .ref a10, .ref a11, .int 0]))] s.heap := hP
  have hl := lv_entry ([.ref h0, .int p0]) (n := 2) (Nat.le_of_ble_eq_true rfl)
  rw [lg_entry_eq]
  generalize (lg_sl ([.ref h0, .int p0]) ++ List.replicate (2 - (lg_sl ([.ref h0, .int p0])).length) Slot.unset).toArray = ls at hl ⊢
  have hl : lv_has ls 2 [(0, .ref h0), (1, .int p0)] := hl
  refine lv_aload_n hx hb dX5_open_0 rfl (lv_at hl 0 rfl) ?_
  have hPc := hP.sub (ws' := [(h0, .inr (5, [.ref s0, .ref de, .ref kl, .ref tl, .ref cu, .ref hk, .ref ca, .int 0, .int 0, .int (-1), .int 0, .int 0])), (kl, .inr (2, [.ref kx, .ref ky, .int 0])), (tl, .inr (4, [.ref tx, .ref ty, .int 1]))]) [0, 1, 2] rfl
  have hDc := hD.sub (ws' := [(h0, .inr (5, [.ref s0, .ref de, .ref kl, .ref tl, .ref cu, .ref hk, .ref ca, .int 0, .int 0, .int (-1), .int 0, .int 0])), (kl, .inr (2, [.ref kx, .ref ky, .int 0])), (tl, .inr (4, [.ref tx, .ref ty, .int 1]))]) [0, 1, 2] (by decide) rfl
  have hFc := va_free (wc := [(h0, .inr (5, [.ref s0, .ref de, .ref kl, .ref tl, .ref cu, .ref hk, .ref ca, .int 0, .int 0, .int (-1), .int 0, .int 0])), (kl, .inr (2, [.ref kx, .ref ky, .int 0])), (tl, .inr (4, [.ref tx, .ref ty, .int 1]))]) hD hS hA [0, 1, 2] rfl
  refine va_callv (va_runV (As := []) (rest := []) ⟨hx, hb, hml, hown, ht⟩ (k5_begin l D C b0 s.heap.size h0 s0 de kl tl cu hk ca kx ky tx ty) (cwV 0 ht (xg_V m_281 m_282 m_283 m_240 m_162) rfl rfl rfl (by decide +kernel) ⟨Nat.le_of_ble_eq_true rfl, Nat.le_of_ble_eq_true rfl⟩) ⟨xPc_bl, va_recv hK hPc (ci := 5) (q0 := 0) rfl rfl, xPc_at hPc hK hDc hE hS hAb⟩ rfl rfl hl.1 rfl (lv_room (Nat.le_of_ble_eq_true rfl)) dX5_open_1 ⟨(by decide), (by decide)⟩) hS (fun q _ h => hFc q h) hFc (fun u_1 t H1 locs ht1 hvm hw hB hz1 hk1 hS => ?_)
  obtain ⟨hP1, hD1⟩ := hB
  rw [ht1] at hP1
  try dsimp only at hw
  obtain ⟨hP, hD⟩ := va_join (wr := [(s0, .inr (3, [.ref a0, .ref a1, .ref a2, .ref a3, .ref a4, .ref a5, .ref a6, .int 0, .ref a7, .ref a8, .ref a9, .ref a10, .ref a11, .int 0]))]) (w1 := [(h0, .inr (5, [.ref s0, .ref de, .ref kl, .ref tl, .ref cu, .ref hk, .ref ca, .int 0, .int 0, .int (-1), .int 0, .int 0])), (kl, .inr (2, [.ref kx, .ref ky, .int 0])), (tl, .inr (4, [.ref tx, .ref ty, .int 2]))]) hP hD [0, 1, 2] [3] rfl rfl (by decide) (by decide) hk1 hFc hP1 hD1
  generalize H1 = H at hP hS ⊢
  have hP : va_P D vwCl [(s0, .inr (3, [.ref a0, .ref a1, .ref a2, .ref a3, .ref a4, .ref a5, .ref a6, .int 0, .ref a7, .ref a8, .ref a9, .ref a10, .ref a11, .int 0])), (h0, .inr (5, [.ref s0, .ref de, .ref kl, .ref tl, .ref cu, .ref hk, .ref ca, .int 0, .int 0, .int (-1), .int 0, .int 0])), (kl, .inr (2, [.ref kx, .ref ky, .int 0])), (tl, .inr (4, [.ref tx, .ref ty, .int 2]))] H := hP
  have hD : va_D A [(s0, .inr (3, [.ref a0, .ref a1, .ref a2, .ref a3, .ref a4, .ref a5, .ref a6, .int 0, .ref a7, .ref a8, .ref a9, .ref a10, .ref a11, .int 0])), (h0, .inr (5, [.ref s0, .ref de, .ref kl, .ref tl, .ref cu, .ref hk, .ref ca, .int 0, .int 0, .int (-1), .int 0, .int 0])), (kl, .inr (2, [.ref kx, .ref ky, .int 0])), (tl, .inr (4, [.ref tx, .ref ty, .int 2]))] := hD
  have hq_1 := hw
  refine lv_aload_n hx hb dX5_open_4 rfl (lv_at hl 0 rfl) ?_
  refine lv_iload_n hx hb dX5_open_5 rfl (lv_at hl 1 rfl) ?_
  have hPc := hP.sub (ws' := [(h0, .inr (5, [.ref s0, .ref de, .ref kl, .ref tl, .ref cu, .ref hk, .ref ca, .int 0, .int 0, .int (-1), .int 0, .int 0])), (s0, .inr (3, [.ref a0, .ref a1, .ref a2, .ref a3, .ref a4, .ref a5, .ref a6, .int 0, .ref a7, .ref a8, .ref a9, .ref a10, .ref a11, .int 0]))]) [1, 0] rfl
  have hDc := hD.sub (ws' := [(h0, .inr (5, [.ref s0, .ref de, .ref kl, .ref tl, .ref cu, .ref hk, .ref ca, .int 0, .int 0, .int (-1), .int 0, .int 0])), (s0, .inr (3, [.ref a0, .ref a1, .ref a2, .ref a3, .ref a4, .ref a5, .ref a6, .int 0, .ref a7, .ref a8, .ref a9, .ref a10, .ref a11, .int 0]))]) [1, 0] (by decide) rfl
  have hFc := va_free (wc := [(h0, .inr (5, [.ref s0, .ref de, .ref kl, .ref tl, .ref cu, .ref hk, .ref ca, .int 0, .int 0, .int (-1), .int 0, .int 0])), (s0, .inr (3, [.ref a0, .ref a1, .ref a2, .ref a3, .ref a4, .ref a5, .ref a6, .int 0, .ref a7, .ref a8, .ref a9, .ref a10, .ref a11, .int 0]))]) hD hS hA [1, 0] rfl
  refine vx_callv (vx_runV (As := [.int p0]) (rest := []) ⟨hx, hb, hml, hown, ht⟩ (k5_requireObject l hl0 D C b0 H.size h0 s0 de kl tl cu hk ca a0 a1 a2 a3 a4 a5 a6 a7 a8 a9 a10 a11 p0) (cwV 1 ht (xg_V m_237 m_238 m_239 m_240 m_163) rfl rfl rfl (by decide +kernel) ⟨Nat.le_of_ble_eq_true rfl, Nat.le_of_ble_eq_true rfl⟩) ⟨xPc_bl, va_recv hK hPc (ci := 5) (q0 := 0) rfl rfl, xPc_at hPc hK hDc hE hS hAb⟩ rfl rfl hl.1 rfl (lv_room (Nat.le_of_ble_eq_true rfl)) dX5_open_6 ⟨(by decide), (by decide)⟩) hS (fun q _ h => hFc q h) hFc (fun q _ h => hFc q h) (fun E ce q9 u9 t9 H9 locs9 e9 v9 p9 b9 z9 k9 hS9 hc9 hn9 hf9 => ?_) (fun u_2 t H1 locs ht1 hvm hw hB hz1 hk1 hS => ?_)
  · skip
    obtain rfl := b9
    exact vx_out (mc := 3) (ms := 18) (fun x hx => (htab x hx).elim) hlocks hc9 hn9 hf9 (fun t ht1 hW1 => ⟨(), by first | exact p9 | trivial | assumption | (simp_all; done), rfl, hS9.F ht1⟩) hS9.2.2 (by decide) (by decide)
  · exact hw.elim
set_option maxHeartbeats 4000000 in
set_option maxRecDepth 100000 in
theorem k5_shut (l : Launch) (hl0 : l.stackTraces = false) (D : va_G) (C : Nat → ClassId) (b0 sz : Nat) (h0 : Nat) (s0 : Nat) (de : Nat) (kl : Nat) (tl : Nat) (cu : Nat) (hk : Nat) (ca : Nat) (kx : Nat) (ky : Nat) (tx : Nat) (ty : Nat) (a0 : Nat) (a1 : Nat) (a2 : Nat) (a3 : Nat) (a4 : Nat) (a5 : Nat) (a6 : Nat) (a7 : Nat) (a8 : Nat) (a9 : Nat) (a10 : Nat) (a11 : Nat) (p0 : Int32) : vx_Met l yX5_shut (xw yX5_shut cX5_shut 2 (some .boolean)) ({ frames := 48, cells := 3, slots := 18, locals := 900 }) (xPc D C b0 [.ref h0, .int p0] [(h0, .inr (5, [.ref s0, .ref de, .ref kl, .ref tl, .ref cu, .ref hk, .ref ca, .int 0, .int 0, .int (-1), .int 0, .int 0])), (kl, .inr (2, [.ref kx, .ref ky, .int 0])), (tl, .inr (4, [.ref tx, .ref ty, .int 1])), (s0, .inr (3, [.ref a0, .ref a1, .ref a2, .ref a3, .ref a4, .ref a5, .ref a6, .int 0, .ref a7, .ref a8, .ref a9, .ref a10, .ref a11, .int 0]))] sz) (va_Qi (fun (r : Int32) (u : xS) => False) (xBw D (va_A [(h0, .inr (5, [.ref s0, .ref de, .ref kl, .ref tl, .ref cu, .ref hk, .ref ca, .int 0, .int 0, .int (-1), .int 0, .int 0])), (kl, .inr (2, [.ref kx, .ref ky, .int 0])), (tl, .inr (4, [.ref tx, .ref ty, .int 1])), (s0, .inr (3, [.ref a0, .ref a1, .ref a2, .ref a3, .ref a4, .ref a5, .ref a6, .int 0, .ref a7, .ref a8, .ref a9, .ref a10, .ref a11, .int 0]))] sz) (fun u => [])) (va_A [(h0, .inr (5, [.ref s0, .ref de, .ref kl, .ref tl, .ref cu, .ref hk, .ref ca, .int 0, .int 0, .int (-1), .int 0, .int 0])), (kl, .inr (2, [.ref kx, .ref ky, .int 0])), (tl, .inr (4, [.ref tx, .ref ty, .int 1])), (s0, .inr (3, [.ref a0, .ref a1, .ref a2, .ref a3, .ref a4, .ref a5, .ref a6, .int 0, .ref a7, .ref a8, .ref a9, .ref a10, .ref a11, .int 0]))] sz)) (xX xIAE (True) (va_A [(h0, .inr (5, [.ref s0, .ref de, .ref kl, .ref tl, .ref cu, .ref hk, .ref ca, .int 0, .int 0, .int (-1), .int 0, .int 0])), (kl, .inr (2, [.ref kx, .ref ky, .int 0])), (tl, .inr (4, [.ref tx, .ref ty, .int 1])), (s0, .inr (3, [.ref a0, .ref a1, .ref a2, .ref a3, .ref a4, .ref a5, .ref a6, .int 0, .ref a7, .ref a8, .ref a9, .ref a10, .ref a11, .int 0]))] sz)) 3 18 (va_A [(h0, .inr (5, [.ref s0, .ref de, .ref kl, .ref tl, .ref cu, .ref hk, .ref ca, .int 0, .int 0, .int (-1), .int 0, .int 0])), (kl, .inr (2, [.ref kx, .ref ky, .int 0])), (tl, .inr (4, [.ref tx, .ref ty, .int 1])), (s0, .inr (3, [.ref a0, .ref a1, .ref a2, .ref a3, .ref a4, .ref a5, .ref a6, .int 0, .ref a7, .ref a8, .ref a9, .ref a10, .ref a11, .int 0]))] sz) := by
  refine vx_ofW (cc := cX5_shut) (maxL := 2) (ret := (some .boolean)) (by decide) rfl ?_
  intro p e s m args below meth c s₁ B hml htab hv
  obtain ⟨rfl, hsz, hP, hK, hD0, hE⟩ := hv
  have hx := B.exec
  have hb := B.bytes
  have hr := B.returns
  have ht : ∀ w ∈ xb, w.before _ s = true := fun w h => atoms_spec (ws := xw yX5_shut cX5_shut 2 (some .boolean)) B.pre w (List.mem_cons_of_mem _ h)
  have hown : s.vm.findClass RX5 = some m.cls := findClass_of_methodNamed B.named
  have hlocks := B.notSynchronized
  subst hsz
  have hAb := x_Ab hD0 hE.1
  have hD := hD0.self (sz := s.heap.size)
  generalize hAe : va_A [(h0, .inr (5, [.ref s0, .ref de, .ref kl, .ref tl, .ref cu, .ref hk, .ref ca, .int 0, .int 0, .int (-1), .int 0, .int 0])), (kl, .inr (2, [.ref kx, .ref ky, .int 0])), (tl, .inr (4, [.ref tx, .ref ty, .int 1])), (s0, .inr (3, [.ref a0, .ref a1, .ref a2, .ref a3, .ref a4, .ref a5, .ref a6, .int 0, .ref a7, .ref a8, .ref a9, .ref a10, .ref a11, .int 0]))] s.heap.size = A at hD hAb ⊢
  have hA : ∀ q : Nat, s.heap.size ≤ q → A q := fun q h => by rw [← hAe]; exact Or.inr h
  have hS : va_S A s.heap s.heap [] := va_S.rf
  have hP : va_P D vwCl [(h0, .inr (5, [.ref s0, .ref de, .ref kl, .ref tl, .ref cu, .ref hk, .ref ca, .int 0, .int 0, .int (-1), .int 0, .int 0])), (kl, .inr (2, [.ref kx, .ref ky, .int 0])), (tl, .inr (4, [.ref tx, .ref ty, .int 1])), (s0, .inr (3, [.ref a0, .ref a1, .ref a2, .ref a3, .ref a4, .ref a5, .ref a6, .int 0, .ref a7, .ref a8, .ref a9, .ref a10, .ref a11, .int 0]))] s.heap := hP
  have hl := lv_entry ([.ref h0, .int p0]) (n := 2) (Nat.le_of_ble_eq_true rfl)
  rw [lg_entry_eq]
  generalize (lg_sl ([.ref h0, .int p0]) ++ List.replicate (2 - (lg_sl ([.ref h0, .int p0])).length) Slot.unset).toArray = ls at hl ⊢
  have hl : lv_has ls 2 [(0, .ref h0), (1, .int p0)] := hl
  refine lv_aload_n hx hb dX5_shut_0 rfl (lv_at hl 0 rfl) ?_
  have hPc := hP.sub (ws' := [(h0, .inr (5, [.ref s0, .ref de, .ref kl, .ref tl, .ref cu, .ref hk, .ref ca, .int 0, .int 0, .int (-1), .int 0, .int 0])), (kl, .inr (2, [.ref kx, .ref ky, .int 0])), (tl, .inr (4, [.ref tx, .ref ty, .int 1]))]) [0, 1, 2] rfl
  have hDc := hD.sub (ws' := [(h0, .inr (5, [.ref s0, .ref de, .ref kl, .ref tl, .ref cu, .ref hk, .ref ca, .int 0, .int 0, .int (-1), .int 0, .int 0])), (kl, .inr (2, [.ref kx, .ref ky, .int 0])), (tl, .inr (4, [.ref tx, .ref ty, .int 1]))]) [0, 1, 2] (by decide) rfl
  have hFc := va_free (wc := [(h0, .inr (5, [.ref s0, .ref de, .ref kl, .ref tl, .ref cu, .ref hk, .ref ca, .int 0, .int 0, .int (-1), .int 0, .int 0])), (kl, .inr (2, [.ref kx, .ref ky, .int 0])), (tl, .inr (4, [.ref tx, .ref ty, .int 1]))]) hD hS hA [0, 1, 2] rfl
  refine va_callv (va_runV (As := []) (rest := []) ⟨hx, hb, hml, hown, ht⟩ (k5_begin l D C b0 s.heap.size h0 s0 de kl tl cu hk ca kx ky tx ty) (cwV 0 ht (xg_V m_281 m_282 m_283 m_240 m_162) rfl rfl rfl (by decide +kernel) ⟨Nat.le_of_ble_eq_true rfl, Nat.le_of_ble_eq_true rfl⟩) ⟨xPc_bl, va_recv hK hPc (ci := 5) (q0 := 0) rfl rfl, xPc_at hPc hK hDc hE hS hAb⟩ rfl rfl hl.1 rfl (lv_room (Nat.le_of_ble_eq_true rfl)) dX5_shut_1 ⟨(by decide), (by decide)⟩) hS (fun q _ h => hFc q h) hFc (fun u_1 t H1 locs ht1 hvm hw hB hz1 hk1 hS => ?_)
  obtain ⟨hP1, hD1⟩ := hB
  rw [ht1] at hP1
  try dsimp only at hw
  obtain ⟨hP, hD⟩ := va_join (wr := [(s0, .inr (3, [.ref a0, .ref a1, .ref a2, .ref a3, .ref a4, .ref a5, .ref a6, .int 0, .ref a7, .ref a8, .ref a9, .ref a10, .ref a11, .int 0]))]) (w1 := [(h0, .inr (5, [.ref s0, .ref de, .ref kl, .ref tl, .ref cu, .ref hk, .ref ca, .int 0, .int 0, .int (-1), .int 0, .int 0])), (kl, .inr (2, [.ref kx, .ref ky, .int 0])), (tl, .inr (4, [.ref tx, .ref ty, .int 2]))]) hP hD [0, 1, 2] [3] rfl rfl (by decide) (by decide) hk1 hFc hP1 hD1
  generalize H1 = H at hP hS ⊢
  have hP : va_P D vwCl [(s0, .inr (3, [.ref a0, .ref a1, .ref a2, .ref a3, .ref a4, .ref a5, .ref a6, .int 0, .ref a7, .ref a8, .ref a9, .ref a10, .ref a11, .int 0])), (h0, .inr (5, [.ref s0, .ref de, .ref kl, .ref tl, .ref cu, .ref hk, .ref ca, .int 0, .int 0, .int (-1), .int 0, .int 0])), (kl, .inr (2, [.ref kx, .ref ky, .int 0])), (tl, .inr (4, [.ref tx, .ref ty, .int 2]))] H := hP
  have hD : va_D A [(s0, .inr (3, [.ref a0, .ref a1, .ref a2, .ref a3, .ref a4, .ref a5, .ref a6, .int 0, .ref a7, .ref a8, .ref a9, .ref a10, .ref a11, .int 0])), (h0, .inr (5, [.ref s0, .ref de, .ref kl, .ref tl, .ref cu, .ref hk, .ref ca, .int 0, .int 0, .int (-1), .int 0, .int 0])), (kl, .inr (2, [.ref kx, .ref ky, .int 0])), (tl, .inr (4, [.ref tx, .ref ty, .int 2]))] := hD
  have hq_1 := hw
  refine lv_aload_n hx hb dX5_shut_4 rfl (lv_at hl 0 rfl) ?_
  refine lv_iload_n hx hb dX5_shut_5 rfl (lv_at hl 1 rfl) ?_
  have hPc := hP.sub (ws' := [(h0, .inr (5, [.ref s0, .ref de, .ref kl, .ref tl, .ref cu, .ref hk, .ref ca, .int 0, .int 0, .int (-1), .int 0, .int 0])), (s0, .inr (3, [.ref a0, .ref a1, .ref a2, .ref a3, .ref a4, .ref a5, .ref a6, .int 0, .ref a7, .ref a8, .ref a9, .ref a10, .ref a11, .int 0]))]) [1, 0] rfl
  have hDc := hD.sub (ws' := [(h0, .inr (5, [.ref s0, .ref de, .ref kl, .ref tl, .ref cu, .ref hk, .ref ca, .int 0, .int 0, .int (-1), .int 0, .int 0])), (s0, .inr (3, [.ref a0, .ref a1, .ref a2, .ref a3, .ref a4, .ref a5, .ref a6, .int 0, .ref a7, .ref a8, .ref a9, .ref a10, .ref a11, .int 0]))]) [1, 0] (by decide) rfl
  have hFc := va_free (wc := [(h0, .inr (5, [.ref s0, .ref de, .ref kl, .ref tl, .ref cu, .ref hk, .ref ca, .int 0, .int 0, .int (-1), .int 0, .int 0])), (s0, .inr (3, [.ref a0, .ref a1, .ref a2, .ref a3, .ref a4, .ref a5, .ref a6, .int 0, .ref a7, .ref a8, .ref a9, .ref a10, .ref a11, .int 0]))]) hD hS hA [1, 0] rfl
  refine vx_callv (vx_runV (As := [.int p0]) (rest := []) ⟨hx, hb, hml, hown, ht⟩ (k5_requireObject l hl0 D C b0 H.size h0 s0 de kl tl cu hk ca a0 a1 a2 a3 a4 a5 a6 a7 a8 a9 a10 a11 p0) (cwV 1 ht (xg_V m_237 m_238 m_239 m_240 m_163) rfl rfl rfl (by decide +kernel) ⟨Nat.le_of_ble_eq_true rfl, Nat.le_of_ble_eq_true rfl⟩) ⟨xPc_bl, va_recv hK hPc (ci := 5) (q0 := 0) rfl rfl, xPc_at hPc hK hDc hE hS hAb⟩ rfl rfl hl.1 rfl (lv_room (Nat.le_of_ble_eq_true rfl)) dX5_shut_6 ⟨(by decide), (by decide)⟩) hS (fun q _ h => hFc q h) hFc (fun q _ h => hFc q h) (fun E ce q9 u9 t9 H9 locs9 e9 v9 p9 b9 z9 k9 hS9 hc9 hn9 hf9 => ?_) (fun u_2 t H1 locs ht1 hvm hw hB hz1 hk1 hS => ?_)
  · skip
    obtain rfl := b9
    exact vx_out (mc := 3) (ms := 18) (fun x hx => (htab x hx).elim) hlocks hc9 hn9 hf9 (fun t ht1 hW1 => ⟨(), by first | exact p9 | trivial | assumption | (simp_all; done), rfl, hS9.F ht1⟩) hS9.2.2 (by decide) (by decide)
  · exact hw.elim
set_option maxHeartbeats 4000000 in
set_option maxRecDepth 100000 in
theorem k5_level (l : Launch) (hl0 : l.stackTraces = false) (D : va_G) (C : Nat → ClassId) (b0 sz : Nat) (h0 : Nat) (s0 : Nat) (de : Nat) (kl : Nat) (tl : Nat) (cu : Nat) (hk : Nat) (ca : Nat) (kx : Nat) (ky : Nat) (tx : Nat) (ty : Nat) (a0 : Nat) (a1 : Nat) (a2 : Nat) (a3 : Nat) (a4 : Nat) (a5 : Nat) (a6 : Nat) (a7 : Nat) (a8 : Nat) (a9 : Nat) (a10 : Nat) (a11 : Nat) (p0 : Int32) (p1 : Int32) (p2 : Int32) : vx_Met l yX5_level (xw yX5_level cX5_level 4 (some .boolean)) ({ frames := 48, cells := 3, slots := 18, locals := 900 }) (xPc D C b0 [.ref h0, .int p0, .int p1, .int p2] [(h0, .inr (5, [.ref s0, .ref de, .ref kl, .ref tl, .ref cu, .ref hk, .ref ca, .int 0, .int 0, .int (-1), .int 0, .int 0])), (kl, .inr (2, [.ref kx, .ref ky, .int 0])), (tl, .inr (4, [.ref tx, .ref ty, .int 1])), (s0, .inr (3, [.ref a0, .ref a1, .ref a2, .ref a3, .ref a4, .ref a5, .ref a6, .int 0, .ref a7, .ref a8, .ref a9, .ref a10, .ref a11, .int 0]))] sz) (va_Qi (fun (r : Int32) (u : xS) => False) (xBw D (va_A [(h0, .inr (5, [.ref s0, .ref de, .ref kl, .ref tl, .ref cu, .ref hk, .ref ca, .int 0, .int 0, .int (-1), .int 0, .int 0])), (kl, .inr (2, [.ref kx, .ref ky, .int 0])), (tl, .inr (4, [.ref tx, .ref ty, .int 1])), (s0, .inr (3, [.ref a0, .ref a1, .ref a2, .ref a3, .ref a4, .ref a5, .ref a6, .int 0, .ref a7, .ref a8, .ref a9, .ref a10, .ref a11, .int 0]))] sz) (fun u => [])) (va_A [(h0, .inr (5, [.ref s0, .ref de, .ref kl, .ref tl, .ref cu, .ref hk, .ref ca, .int 0, .int 0, .int (-1), .int 0, .int 0])), (kl, .inr (2, [.ref kx, .ref ky, .int 0])), (tl, .inr (4, [.ref tx, .ref ty, .int 1])), (s0, .inr (3, [.ref a0, .ref a1, .ref a2, .ref a3, .ref a4, .ref a5, .ref a6, .int 0, .ref a7, .ref a8, .ref a9, .ref a10, .ref a11, .int 0]))] sz)) (xX xIAE (True) (va_A [(h0, .inr (5, [.ref s0, .ref de, .ref kl, .ref tl, .ref cu, .ref hk, .ref ca, .int 0, .int 0, .int (-1), .int 0, .int 0])), (kl, .inr (2, [.ref kx, .ref ky, .int 0])), (tl, .inr (4, [.ref tx, .ref ty, .int 1])), (s0, .inr (3, [.ref a0, .ref a1, .ref a2, .ref a3, .ref a4, .ref a5, .ref a6, .int 0, .ref a7, .ref a8, .ref a9, .ref a10, .ref a11, .int 0]))] sz)) 3 18 (va_A [(h0, .inr (5, [.ref s0, .ref de, .ref kl, .ref tl, .ref cu, .ref hk, .ref ca, .int 0, .int 0, .int (-1), .int 0, .int 0])), (kl, .inr (2, [.ref kx, .ref ky, .int 0])), (tl, .inr (4, [.ref tx, .ref ty, .int 1])), (s0, .inr (3, [.ref a0, .ref a1, .ref a2, .ref a3, .ref a4, .ref a5, .ref a6, .int 0, .ref a7, .ref a8, .ref a9, .ref a10, .ref a11, .int 0]))] sz) := by
  refine vx_ofW (cc := cX5_level) (maxL := 4) (ret := (some .boolean)) (by decide) rfl ?_
  intro p e s m args below meth c s₁ B hml htab hv
  obtain ⟨rfl, hsz, hP, hK, hD0, hE⟩ := hv
  have hx := B.exec
  have hb := B.bytes
  have hr := B.returns
  have ht : ∀ w ∈ xb, w.before _ s = true := fun w h => atoms_spec (ws := xw yX5_level cX5_level 4 (some .boolean)) B.pre w (List.mem_cons_of_mem _ h)
  have hown : s.vm.findClass RX5 = some m.cls := findClass_of_methodNamed B.named
  have hlocks := B.notSynchronized
  subst hsz
  have hAb := x_Ab hD0 hE.1
  have hD := hD0.self (sz := s.heap.size)
  generalize hAe : va_A [(h0, .inr (5, [.ref s0, .ref de, .ref kl, .ref tl, .ref cu, .ref hk, .ref ca, .int 0, .int 0, .int (-1), .int 0, .int 0])), (kl, .inr (2, [.ref kx, .ref ky, .int 0])), (tl, .inr (4, [.ref tx, .ref ty, .int 1])), (s0, .inr (3, [.ref a0, .ref a1, .ref a2, .ref a3, .ref a4, .ref a5, .ref a6, .int 0, .ref a7, .ref a8, .ref a9, .ref a10, .ref a11, .int 0]))] s.heap.size = A at hD hAb ⊢
  have hA : ∀ q : Nat, s.heap.size ≤ q → A q := fun q h => by rw [← hAe]; exact Or.inr h
  have hS : va_S A s.heap s.heap [] := va_S.rf
  have hP : va_P D vwCl [(h0, .inr (5, [.ref s0, .ref de, .ref kl, .ref tl, .ref cu, .ref hk, .ref ca, .int 0, .int 0, .int (-1), .int 0, .int 0])), (kl, .inr (2, [.ref kx, .ref ky, .int 0])), (tl, .inr (4, [.ref tx, .ref ty, .int 1])), (s0, .inr (3, [.ref a0, .ref a1, .ref a2, .ref a3, .ref a4, .ref a5, .ref a6, .int 0, .ref a7, .ref a8, .ref a9, .ref a10, .ref a11, .int 0]))] s.heap := hP
  have hl := lv_entry ([.ref h0, .int p0, .int p1, .int p2]) (n := 4) (Nat.le_of_ble_eq_true rfl)
  rw [lg_entry_eq]
  generalize (lg_sl ([.ref h0, .int p0, .int p1, .int p2]) ++ List.replicate (4 - (lg_sl ([.ref h0, .int p0, .int p1, .int p2])).length) Slot.unset).toArray = ls at hl ⊢
  have hl : lv_has ls 4 [(0, .ref h0), (1, .int p0), (2, .int p1), (3, .int p2)] := hl
  refine lv_aload_n hx hb dX5_level_0 rfl (lv_at hl 0 rfl) ?_
  have hPc := hP.sub (ws' := [(h0, .inr (5, [.ref s0, .ref de, .ref kl, .ref tl, .ref cu, .ref hk, .ref ca, .int 0, .int 0, .int (-1), .int 0, .int 0])), (kl, .inr (2, [.ref kx, .ref ky, .int 0])), (tl, .inr (4, [.ref tx, .ref ty, .int 1]))]) [0, 1, 2] rfl
  have hDc := hD.sub (ws' := [(h0, .inr (5, [.ref s0, .ref de, .ref kl, .ref tl, .ref cu, .ref hk, .ref ca, .int 0, .int 0, .int (-1), .int 0, .int 0])), (kl, .inr (2, [.ref kx, .ref ky, .int 0])), (tl, .inr (4, [.ref tx, .ref ty, .int 1]))]) [0, 1, 2] (by decide) rfl
  have hFc := va_free (wc := [(h0, .inr (5, [.ref s0, .ref de, .ref kl, .ref tl, .ref cu, .ref hk, .ref ca, .int 0, .int 0, .int (-1), .int 0, .int 0])), (kl, .inr (2, [.ref kx, .ref ky, .int 0])), (tl, .inr (4, [.ref tx, .ref ty, .int 1]))]) hD hS hA [0, 1, 2] rfl
  refine va_callv (va_runV (As := []) (rest := []) ⟨hx, hb, hml, hown, ht⟩ (k5_begin l D C b0 s.heap.size h0 s0 de kl tl cu hk ca kx ky tx ty) (cwV 0 ht (xg_V m_281 m_282 m_283 m_240 m_162) rfl rfl rfl (by decide +kernel) ⟨Nat.le_of_ble_eq_true rfl, Nat.le_of_ble_eq_true rfl⟩) ⟨xPc_bl, va_recv hK hPc (ci := 5) (q0 := 0) rfl rfl, xPc_at hPc hK hDc hE hS hAb⟩ rfl rfl hl.1 rfl (lv_room (Nat.le_of_ble_eq_true rfl)) dX5_level_1 ⟨(by decide), (by decide)⟩) hS (fun q _ h => hFc q h) hFc (fun u_1 t H1 locs ht1 hvm hw hB hz1 hk1 hS => ?_)
  obtain ⟨hP1, hD1⟩ := hB
  rw [ht1] at hP1
  try dsimp only at hw
  obtain ⟨hP, hD⟩ := va_join (wr := [(s0, .inr (3, [.ref a0, .ref a1, .ref a2, .ref a3, .ref a4, .ref a5, .ref a6, .int 0, .ref a7, .ref a8, .ref a9, .ref a10, .ref a11, .int 0]))]) (w1 := [(h0, .inr (5, [.ref s0, .ref de, .ref kl, .ref tl, .ref cu, .ref hk, .ref ca, .int 0, .int 0, .int (-1), .int 0, .int 0])), (kl, .inr (2, [.ref kx, .ref ky, .int 0])), (tl, .inr (4, [.ref tx, .ref ty, .int 2]))]) hP hD [0, 1, 2] [3] rfl rfl (by decide) (by decide) hk1 hFc hP1 hD1
  generalize H1 = H at hP hS ⊢
  have hP : va_P D vwCl [(s0, .inr (3, [.ref a0, .ref a1, .ref a2, .ref a3, .ref a4, .ref a5, .ref a6, .int 0, .ref a7, .ref a8, .ref a9, .ref a10, .ref a11, .int 0])), (h0, .inr (5, [.ref s0, .ref de, .ref kl, .ref tl, .ref cu, .ref hk, .ref ca, .int 0, .int 0, .int (-1), .int 0, .int 0])), (kl, .inr (2, [.ref kx, .ref ky, .int 0])), (tl, .inr (4, [.ref tx, .ref ty, .int 2]))] H := hP
  have hD : va_D A [(s0, .inr (3, [.ref a0, .ref a1, .ref a2, .ref a3, .ref a4, .ref a5, .ref a6, .int 0, .ref a7, .ref a8, .ref a9, .ref a10, .ref a11, .int 0])), (h0, .inr (5, [.ref s0, .ref de, .ref kl, .ref tl, .ref cu, .ref hk, .ref ca, .int 0, .int 0, .int (-1), .int 0, .int 0])), (kl, .inr (2, [.ref kx, .ref ky, .int 0])), (tl, .inr (4, [.ref tx, .ref ty, .int 2]))] := hD
  have hq_1 := hw
  refine lv_aload_n hx hb dX5_level_4 rfl (lv_at hl 0 rfl) ?_
  refine lv_iload_n hx hb dX5_level_5 rfl (lv_at hl 1 rfl) ?_
  have hPc := hP.sub (ws' := [(h0, .inr (5, [.ref s0, .ref de, .ref kl, .ref tl, .ref cu, .ref hk, .ref ca, .int 0, .int 0, .int (-1), .int 0, .int 0])), (s0, .inr (3, [.ref a0, .ref a1, .ref a2, .ref a3, .ref a4, .ref a5, .ref a6, .int 0, .ref a7, .ref a8, .ref a9, .ref a10, .ref a11, .int 0]))]) [1, 0] rfl
  have hDc := hD.sub (ws' := [(h0, .inr (5, [.ref s0, .ref de, .ref kl, .ref tl, .ref cu, .ref hk, .ref ca, .int 0, .int 0, .int (-1), .int 0, .int 0])), (s0, .inr (3, [.ref a0, .ref a1, .ref a2, .ref a3, .ref a4, .ref a5, .ref a6, .int 0, .ref a7, .ref a8, .ref a9, .ref a10, .ref a11, .int 0]))]) [1, 0] (by decide) rfl
  have hFc := va_free (wc := [(h0, .inr (5, [.ref s0, .ref de, .ref kl, .ref tl, .ref cu, .ref hk, .ref ca, .int 0, .int 0, .int (-1), .int 0, .int 0])), (s0, .inr (3, [.ref a0, .ref a1, .ref a2, .ref a3, .ref a4, .ref a5, .ref a6, .int 0, .ref a7, .ref a8, .ref a9, .ref a10, .ref a11, .int 0]))]) hD hS hA [1, 0] rfl
  refine vx_callv (vx_runV (As := [.int p0]) (rest := []) ⟨hx, hb, hml, hown, ht⟩ (k5_requireObject l hl0 D C b0 H.size h0 s0 de kl tl cu hk ca a0 a1 a2 a3 a4 a5 a6 a7 a8 a9 a10 a11 p0) (cwV 1 ht (xg_V m_237 m_238 m_239 m_240 m_163) rfl rfl rfl (by decide +kernel) ⟨Nat.le_of_ble_eq_true rfl, Nat.le_of_ble_eq_true rfl⟩) ⟨xPc_bl, va_recv hK hPc (ci := 5) (q0 := 0) rfl rfl, xPc_at hPc hK hDc hE hS hAb⟩ rfl rfl hl.1 rfl (lv_room (Nat.le_of_ble_eq_true rfl)) dX5_level_6 ⟨(by decide), (by decide)⟩) hS (fun q _ h => hFc q h) hFc (fun q _ h => hFc q h) (fun E ce q9 u9 t9 H9 locs9 e9 v9 p9 b9 z9 k9 hS9 hc9 hn9 hf9 => ?_) (fun u_2 t H1 locs ht1 hvm hw hB hz1 hk1 hS => ?_)
  · skip
    obtain rfl := b9
    exact vx_out (mc := 3) (ms := 18) (fun x hx => (htab x hx).elim) hlocks hc9 hn9 hf9 (fun t ht1 hW1 => ⟨(), by first | exact p9 | trivial | assumption | (simp_all; done), rfl, hS9.F ht1⟩) hS9.2.2 (by decide) (by decide)
  · exact hw.elim
set_option maxHeartbeats 4000000 in
set_option maxRecDepth 100000 in
theorem k5_assign (l : Launch) (hl0 : l.stackTraces = false) (D : va_G) (C : Nat → ClassId) (b0 sz : Nat) (h0 : Nat) (s0 : Nat) (de : Nat) (kl : Nat) (tl : Nat) (cu : Nat) (hk : Nat) (ca : Nat) (kx : Nat) (ky : Nat) (tx : Nat) (ty : Nat) (a0 : Nat) (a1 : Nat) (a2 : Nat) (a3 : Nat) (a4 : Nat) (a5 : Nat) (a6 : Nat) (a7 : Nat) (a8 : Nat) (a9 : Nat) (a10 : Nat) (a11 : Nat) (p0 : Int32) (p1 : Int32) : vx_Met l yX5_assign (xw yX5_assign cX5_assign 3 (some .int)) ({ frames := 48, cells := 3, slots := 18, locals := 900 }) (xPc D C b0 [.ref h0, .int p0, .int p1] [(h0, .inr (5, [.ref s0, .ref de, .ref kl, .ref tl, .ref cu, .ref hk, .ref ca, .int 0, .int 0, .int (-1), .int 0, .int 0])), (kl, .inr (2, [.ref kx, .ref ky, .int 0])), (tl, .inr (4, [.ref tx, .ref ty, .int 1])), (s0, .inr (3, [.ref a0, .ref a1, .ref a2, .ref a3, .ref a4, .ref a5, .ref a6, .int 0, .ref a7, .ref a8, .ref a9, .ref a10, .ref a11, .int 0]))] sz) (va_Qi (fun (r : Int32) (u : xS) => False) (xBw D (va_A [(h0, .inr (5, [.ref s0, .ref de, .ref kl, .ref tl, .ref cu, .ref hk, .ref ca, .int 0, .int 0, .int (-1), .int 0, .int 0])), (kl, .inr (2, [.ref kx, .ref ky, .int 0])), (tl, .inr (4, [.ref tx, .ref ty, .int 1])), (s0, .inr (3, [.ref a0, .ref a1, .ref a2, .ref a3, .ref a4, .ref a5, .ref a6, .int 0, .ref a7, .ref a8, .ref a9, .ref a10, .ref a11, .int 0]))] sz) (fun u => [])) (va_A [(h0, .inr (5, [.ref s0, .ref de, .ref kl, .ref tl, .ref cu, .ref hk, .ref ca, .int 0, .int 0, .int (-1), .int 0, .int 0])), (kl, .inr (2, [.ref kx, .ref ky, .int 0])), (tl, .inr (4, [.ref tx, .ref ty, .int 1])), (s0, .inr (3, [.ref a0, .ref a1, .ref a2, .ref a3, .ref a4, .ref a5, .ref a6, .int 0, .ref a7, .ref a8, .ref a9, .ref a10, .ref a11, .int 0]))] sz)) (xX xIAE (True) (va_A [(h0, .inr (5, [.ref s0, .ref de, .ref kl, .ref tl, .ref cu, .ref hk, .ref ca, .int 0, .int 0, .int (-1), .int 0, .int 0])), (kl, .inr (2, [.ref kx, .ref ky, .int 0])), (tl, .inr (4, [.ref tx, .ref ty, .int 1])), (s0, .inr (3, [.ref a0, .ref a1, .ref a2, .ref a3, .ref a4, .ref a5, .ref a6, .int 0, .ref a7, .ref a8, .ref a9, .ref a10, .ref a11, .int 0]))] sz)) 3 18 (va_A [(h0, .inr (5, [.ref s0, .ref de, .ref kl, .ref tl, .ref cu, .ref hk, .ref ca, .int 0, .int 0, .int (-1), .int 0, .int 0])), (kl, .inr (2, [.ref kx, .ref ky, .int 0])), (tl, .inr (4, [.ref tx, .ref ty, .int 1])), (s0, .inr (3, [.ref a0, .ref a1, .ref a2, .ref a3, .ref a4, .ref a5, .ref a6, .int 0, .ref a7, .ref a8, .ref a9, .ref a10, .ref a11, .int 0]))] sz) := by
  refine vx_ofW (cc := cX5_assign) (maxL := 3) (ret := (some .int)) (by decide) rfl ?_
  intro p e s m args below meth c s₁ B hml htab hv
  obtain ⟨rfl, hsz, hP, hK, hD0, hE⟩ := hv
  have hx := B.exec
  have hb := B.bytes
  have hr := B.returns
  have ht : ∀ w ∈ xb, w.before _ s = true := fun w h => atoms_spec (ws := xw yX5_assign cX5_assign 3 (some .int)) B.pre w (List.mem_cons_of_mem _ h)
  have hown : s.vm.findClass RX5 = some m.cls := findClass_of_methodNamed B.named
  have hlocks := B.notSynchronized
  subst hsz
  have hAb := x_Ab hD0 hE.1
  have hD := hD0.self (sz := s.heap.size)
  generalize hAe : va_A [(h0, .inr (5, [.ref s0, .ref de, .ref kl, .ref tl, .ref cu, .ref hk, .ref ca, .int 0, .int 0, .int (-1), .int 0, .int 0])), (kl, .inr (2, [.ref kx, .ref ky, .int 0])), (tl, .inr (4, [.ref tx, .ref ty, .int 1])), (s0, .inr (3, [.ref a0, .ref a1, .ref a2, .ref a3, .ref a4, .ref a5, .ref a6, .int 0, .ref a7, .ref a8, .ref a9, .ref a10, .ref a11, .int 0]))] s.heap.size = A at hD hAb ⊢
  have hA : ∀ q : Nat, s.heap.size ≤ q → A q := fun q h => by rw [← hAe]; exact Or.inr h
  have hS : va_S A s.heap s.heap [] := va_S.rf
  have hP : va_P D vwCl [(h0, .inr (5, [.ref s0, .ref de, .ref kl, .ref tl, .ref cu, .ref hk, .ref ca, .int 0, .int 0, .int (-1), .int 0, .int 0])), (kl, .inr (2, [.ref kx, .ref ky, .int 0])), (tl, .inr (4, [.ref tx, .ref ty, .int 1])), (s0, .inr (3, [.ref a0, .ref a1, .ref a2, .ref a3, .ref a4, .ref a5, .ref a6, .int 0, .ref a7, .ref a8, .ref a9, .ref a10, .ref a11, .int 0]))] s.heap := hP
  have hl := lv_entry ([.ref h0, .int p0, .int p1]) (n := 3) (Nat.le_of_ble_eq_true rfl)
  rw [lg_entry_eq]
  generalize (lg_sl ([.ref h0, .int p0, .int p1]) ++ List.replicate (3 - (lg_sl ([.ref h0, .int p0, .int p1])).length) Slot.unset).toArray = ls at hl ⊢
  have hl : lv_has ls 3 [(0, .ref h0), (1, .int p0), (2, .int p1)] := hl
  refine lv_aload_n hx hb dX5_assign_0 rfl (lv_at hl 0 rfl) ?_
  have hPc := hP.sub (ws' := [(h0, .inr (5, [.ref s0, .ref de, .ref kl, .ref tl, .ref cu, .ref hk, .ref ca, .int 0, .int 0, .int (-1), .int 0, .int 0])), (kl, .inr (2, [.ref kx, .ref ky, .int 0])), (tl, .inr (4, [.ref tx, .ref ty, .int 1]))]) [0, 1, 2] rfl
  have hDc := hD.sub (ws' := [(h0, .inr (5, [.ref s0, .ref de, .ref kl, .ref tl, .ref cu, .ref hk, .ref ca, .int 0, .int 0, .int (-1), .int 0, .int 0])), (kl, .inr (2, [.ref kx, .ref ky, .int 0])), (tl, .inr (4, [.ref tx, .ref ty, .int 1]))]) [0, 1, 2] (by decide) rfl
  have hFc := va_free (wc := [(h0, .inr (5, [.ref s0, .ref de, .ref kl, .ref tl, .ref cu, .ref hk, .ref ca, .int 0, .int 0, .int (-1), .int 0, .int 0])), (kl, .inr (2, [.ref kx, .ref ky, .int 0])), (tl, .inr (4, [.ref tx, .ref ty, .int 1]))]) hD hS hA [0, 1, 2] rfl
  refine va_callv (va_runV (As := []) (rest := []) ⟨hx, hb, hml, hown, ht⟩ (k5_begin l D C b0 s.heap.size h0 s0 de kl tl cu hk ca kx ky tx ty) (cwV 0 ht (xg_V m_281 m_282 m_283 m_240 m_162) rfl rfl rfl (by decide +kernel) ⟨Nat.le_of_ble_eq_true rfl, Nat.le_of_ble_eq_true rfl⟩) ⟨xPc_bl, va_recv hK hPc (ci := 5) (q0 := 0) rfl rfl, xPc_at hPc hK hDc hE hS hAb⟩ rfl rfl hl.1 rfl (lv_room (Nat.le_of_ble_eq_true rfl)) dX5_assign_1 ⟨(by decide), (by decide)⟩) hS (fun q _ h => hFc q h) hFc (fun u_1 t H1 locs ht1 hvm hw hB hz1 hk1 hS => ?_)
  obtain ⟨hP1, hD1⟩ := hB
  rw [ht1] at hP1
  try dsimp only at hw
  obtain ⟨hP, hD⟩ := va_join (wr := [(s0, .inr (3, [.ref a0, .ref a1, .ref a2, .ref a3, .ref a4, .ref a5, .ref a6, .int 0, .ref a7, .ref a8, .ref a9, .ref a10, .ref a11, .int 0]))]) (w1 := [(h0, .inr (5, [.ref s0, .ref de, .ref kl, .ref tl, .ref cu, .ref hk, .ref ca, .int 0, .int 0, .int (-1), .int 0, .int 0])), (kl, .inr (2, [.ref kx, .ref ky, .int 0])), (tl, .inr (4, [.ref tx, .ref ty, .int 2]))]) hP hD [0, 1, 2] [3] rfl rfl (by decide) (by decide) hk1 hFc hP1 hD1
  generalize H1 = H at hP hS ⊢
  have hP : va_P D vwCl [(s0, .inr (3, [.ref a0, .ref a1, .ref a2, .ref a3, .ref a4, .ref a5, .ref a6, .int 0, .ref a7, .ref a8, .ref a9, .ref a10, .ref a11, .int 0])), (h0, .inr (5, [.ref s0, .ref de, .ref kl, .ref tl, .ref cu, .ref hk, .ref ca, .int 0, .int 0, .int (-1), .int 0, .int 0])), (kl, .inr (2, [.ref kx, .ref ky, .int 0])), (tl, .inr (4, [.ref tx, .ref ty, .int 2]))] H := hP
  have hD : va_D A [(s0, .inr (3, [.ref a0, .ref a1, .ref a2, .ref a3, .ref a4, .ref a5, .ref a6, .int 0, .ref a7, .ref a8, .ref a9, .ref a10, .ref a11, .int 0])), (h0, .inr (5, [.ref s0, .ref de, .ref kl, .ref tl, .ref cu, .ref hk, .ref ca, .int 0, .int 0, .int (-1), .int 0, .int 0])), (kl, .inr (2, [.ref kx, .ref ky, .int 0])), (tl, .inr (4, [.ref tx, .ref ty, .int 2]))] := hD
  have hq_1 := hw
  refine lv_aload_n hx hb dX5_assign_4 rfl (lv_at hl 0 rfl) ?_
  refine lv_iload_n hx hb dX5_assign_5 rfl (lv_at hl 1 rfl) ?_
  have hPc := hP.sub (ws' := [(h0, .inr (5, [.ref s0, .ref de, .ref kl, .ref tl, .ref cu, .ref hk, .ref ca, .int 0, .int 0, .int (-1), .int 0, .int 0])), (s0, .inr (3, [.ref a0, .ref a1, .ref a2, .ref a3, .ref a4, .ref a5, .ref a6, .int 0, .ref a7, .ref a8, .ref a9, .ref a10, .ref a11, .int 0]))]) [1, 0] rfl
  have hDc := hD.sub (ws' := [(h0, .inr (5, [.ref s0, .ref de, .ref kl, .ref tl, .ref cu, .ref hk, .ref ca, .int 0, .int 0, .int (-1), .int 0, .int 0])), (s0, .inr (3, [.ref a0, .ref a1, .ref a2, .ref a3, .ref a4, .ref a5, .ref a6, .int 0, .ref a7, .ref a8, .ref a9, .ref a10, .ref a11, .int 0]))]) [1, 0] (by decide) rfl
  have hFc := va_free (wc := [(h0, .inr (5, [.ref s0, .ref de, .ref kl, .ref tl, .ref cu, .ref hk, .ref ca, .int 0, .int 0, .int (-1), .int 0, .int 0])), (s0, .inr (3, [.ref a0, .ref a1, .ref a2, .ref a3, .ref a4, .ref a5, .ref a6, .int 0, .ref a7, .ref a8, .ref a9, .ref a10, .ref a11, .int 0]))]) hD hS hA [1, 0] rfl
  refine vx_callv (vx_runV (As := [.int p0]) (rest := []) ⟨hx, hb, hml, hown, ht⟩ (k5_requireObject l hl0 D C b0 H.size h0 s0 de kl tl cu hk ca a0 a1 a2 a3 a4 a5 a6 a7 a8 a9 a10 a11 p0) (cwV 1 ht (xg_V m_237 m_238 m_239 m_240 m_163) rfl rfl rfl (by decide +kernel) ⟨Nat.le_of_ble_eq_true rfl, Nat.le_of_ble_eq_true rfl⟩) ⟨xPc_bl, va_recv hK hPc (ci := 5) (q0 := 0) rfl rfl, xPc_at hPc hK hDc hE hS hAb⟩ rfl rfl hl.1 rfl (lv_room (Nat.le_of_ble_eq_true rfl)) dX5_assign_6 ⟨(by decide), (by decide)⟩) hS (fun q _ h => hFc q h) hFc (fun q _ h => hFc q h) (fun E ce q9 u9 t9 H9 locs9 e9 v9 p9 b9 z9 k9 hS9 hc9 hn9 hf9 => ?_) (fun u_2 t H1 locs ht1 hvm hw hB hz1 hk1 hS => ?_)
  · skip
    obtain rfl := b9
    exact vx_out (mc := 3) (ms := 18) (fun x hx => (htab x hx).elim) hlocks hc9 hn9 hf9 (fun t ht1 hW1 => ⟨(), by first | exact p9 | trivial | assumption | (simp_all; done), rfl, hS9.F ht1⟩) hS9.2.2 (by decide) (by decide)
  · exact hw.elim
set_option maxHeartbeats 4000000 in
set_option maxRecDepth 100000 in
theorem k5_revoke (l : Launch) (hl0 : l.stackTraces = false) (D : va_G) (C : Nat → ClassId) (b0 sz : Nat) (h0 : Nat) (s0 : Nat) (de : Nat) (kl : Nat) (tl : Nat) (cu : Nat) (hk : Nat) (ca : Nat) (kx : Nat) (ky : Nat) (tx : Nat) (ty : Nat) (a0 : Nat) (a1 : Nat) (a2 : Nat) (a3 : Nat) (a4 : Nat) (a5 : Nat) (a6 : Nat) (a7 : Nat) (a8 : Nat) (a9 : Nat) (a10 : Nat) (a11 : Nat) (p0 : Int32) : vx_Met l yX5_revoke (xw yX5_revoke cX5_revoke 3 (some .boolean)) ({ frames := 48, cells := 3, slots := 18, locals := 900 }) (xPc D C b0 [.ref h0, .int p0] [(h0, .inr (5, [.ref s0, .ref de, .ref kl, .ref tl, .ref cu, .ref hk, .ref ca, .int 0, .int 0, .int (-1), .int 0, .int 0])), (kl, .inr (2, [.ref kx, .ref ky, .int 0])), (tl, .inr (4, [.ref tx, .ref ty, .int 1])), (s0, .inr (3, [.ref a0, .ref a1, .ref a2, .ref a3, .ref a4, .ref a5, .ref a6, .int 0, .ref a7, .ref a8, .ref a9, .ref a10, .ref a11, .int 0]))] sz) (va_Qi (fun (r : Int32) (u : xS) => False) (xBw D (va_A [(h0, .inr (5, [.ref s0, .ref de, .ref kl, .ref tl, .ref cu, .ref hk, .ref ca, .int 0, .int 0, .int (-1), .int 0, .int 0])), (kl, .inr (2, [.ref kx, .ref ky, .int 0])), (tl, .inr (4, [.ref tx, .ref ty, .int 1])), (s0, .inr (3, [.ref a0, .ref a1, .ref a2, .ref a3, .ref a4, .ref a5, .ref a6, .int 0, .ref a7, .ref a8, .ref a9, .ref a10, .ref a11, .int 0]))] sz) (fun u => [])) (va_A [(h0, .inr (5, [.ref s0, .ref de, .ref kl, .ref tl, .ref cu, .ref hk, .ref ca, .int 0, .int 0, .int (-1), .int 0, .int 0])), (kl, .inr (2, [.ref kx, .ref ky, .int 0])), (tl, .inr (4, [.ref tx, .ref ty, .int 1])), (s0, .inr (3, [.ref a0, .ref a1, .ref a2, .ref a3, .ref a4, .ref a5, .ref a6, .int 0, .ref a7, .ref a8, .ref a9, .ref a10, .ref a11, .int 0]))] sz)) (xX xIAE (True) (va_A [(h0, .inr (5, [.ref s0, .ref de, .ref kl, .ref tl, .ref cu, .ref hk, .ref ca, .int 0, .int 0, .int (-1), .int 0, .int 0])), (kl, .inr (2, [.ref kx, .ref ky, .int 0])), (tl, .inr (4, [.ref tx, .ref ty, .int 1])), (s0, .inr (3, [.ref a0, .ref a1, .ref a2, .ref a3, .ref a4, .ref a5, .ref a6, .int 0, .ref a7, .ref a8, .ref a9, .ref a10, .ref a11, .int 0]))] sz)) 3 18 (va_A [(h0, .inr (5, [.ref s0, .ref de, .ref kl, .ref tl, .ref cu, .ref hk, .ref ca, .int 0, .int 0, .int (-1), .int 0, .int 0])), (kl, .inr (2, [.ref kx, .ref ky, .int 0])), (tl, .inr (4, [.ref tx, .ref ty, .int 1])), (s0, .inr (3, [.ref a0, .ref a1, .ref a2, .ref a3, .ref a4, .ref a5, .ref a6, .int 0, .ref a7, .ref a8, .ref a9, .ref a10, .ref a11, .int 0]))] sz) := by
  refine vx_ofW (cc := cX5_revoke) (maxL := 3) (ret := (some .boolean)) (by decide) rfl ?_
  intro p e s m args below meth c s₁ B hml htab hv
  obtain ⟨rfl, hsz, hP, hK, hD0, hE⟩ := hv
  have hx := B.exec
  have hb := B.bytes
  have hr := B.returns
  have ht : ∀ w ∈ xb, w.before _ s = true := fun w h => atoms_spec (ws := xw yX5_revoke cX5_revoke 3 (some .boolean)) B.pre w (List.mem_cons_of_mem _ h)
  have hown : s.vm.findClass RX5 = some m.cls := findClass_of_methodNamed B.named
  have hlocks := B.notSynchronized
  subst hsz
  have hAb := x_Ab hD0 hE.1
  have hD := hD0.self (sz := s.heap.size)
  generalize hAe : va_A [(h0, .inr (5, [.ref s0, .ref de, .ref kl, .ref tl, .ref cu, .ref hk, .ref ca, .int 0, .int 0, .int (-1), .int 0, .int 0])), (kl, .inr (2, [.ref kx, .ref ky, .int 0])), (tl, .inr (4, [.ref tx, .ref ty, .int 1])), (s0, .inr (3, [.ref a0, .ref a1, .ref a2, .ref a3, .ref a4, .ref a5, .ref a6, .int 0, .ref a7, .ref a8, .ref a9, .ref a10, .ref a11, .int 0]))] s.heap.size = A at hD hAb ⊢
  have hA : ∀ q : Nat, s.heap.size ≤ q → A q := fun q h => by rw [← hAe]; exact Or.inr h
  have hS : va_S A s.heap s.heap [] := va_S.rf
  have hP : va_P D vwCl [(h0, .inr (5, [.ref s0, .ref de, .ref kl, .ref tl, .ref cu, .ref hk, .ref ca, .int 0, .int 0, .int (-1), .int 0, .int 0])), (kl, .inr (2, [.ref kx, .ref ky, .int 0])), (tl, .inr (4, [.ref tx, .ref ty, .int 1])), (s0, .inr (3, [.ref a0, .ref a1, .ref a2, .ref a3, .ref a4, .ref a5, .ref a6, .int 0, .ref a7, .ref a8, .ref a9, .ref a10, .ref a11, .int 0]))] s.heap := hP
  have hl := lv_entry ([.ref h0, .int p0]) (n := 3) (Nat.le_of_ble_eq_true rfl)
  rw [lg_entry_eq]
  generalize (lg_sl ([.ref h0, .int p0]) ++ List.replicate (3 - (lg_sl ([.ref h0, .int p0])).length) Slot.unset).toArray = ls at hl ⊢
  have hl : lv_has ls 3 [(0, .ref h0), (1, .int p0)] := hl
  refine lv_aload_n hx hb dX5_revoke_0 rfl (lv_at hl 0 rfl) ?_
  have hPc := hP.sub (ws' := [(h0, .inr (5, [.ref s0, .ref de, .ref kl, .ref tl, .ref cu, .ref hk, .ref ca, .int 0, .int 0, .int (-1), .int 0, .int 0])), (kl, .inr (2, [.ref kx, .ref ky, .int 0])), (tl, .inr (4, [.ref tx, .ref ty, .int 1]))]) [0, 1, 2] rfl
  have hDc := hD.sub (ws' := [(h0, .inr (5, [.ref s0, .ref de, .ref kl, .ref tl, .ref cu, .ref hk, .ref ca, .int 0, .int 0, .int (-1), .int 0, .int 0])), (kl, .inr (2, [.ref kx, .ref ky, .int 0])), (tl, .inr (4, [.ref tx, .ref ty, .int 1]))]) [0, 1, 2] (by decide) rfl
  have hFc := va_free (wc := [(h0, .inr (5, [.ref s0, .ref de, .ref kl, .ref tl, .ref cu, .ref hk, .ref ca, .int 0, .int 0, .int (-1), .int 0, .int 0])), (kl, .inr (2, [.ref kx, .ref ky, .int 0])), (tl, .inr (4, [.ref tx, .ref ty, .int 1]))]) hD hS hA [0, 1, 2] rfl
  refine va_callv (va_runV (As := []) (rest := []) ⟨hx, hb, hml, hown, ht⟩ (k5_begin l D C b0 s.heap.size h0 s0 de kl tl cu hk ca kx ky tx ty) (cwV 0 ht (xg_V m_281 m_282 m_283 m_240 m_162) rfl rfl rfl (by decide +kernel) ⟨Nat.le_of_ble_eq_true rfl, Nat.le_of_ble_eq_true rfl⟩) ⟨xPc_bl, va_recv hK hPc (ci := 5) (q0 := 0) rfl rfl, xPc_at hPc hK hDc hE hS hAb⟩ rfl rfl hl.1 rfl (lv_room (Nat.le_of_ble_eq_true rfl)) dX5_revoke_1 ⟨(by decide), (by decide)⟩) hS (fun q _ h => hFc q h) hFc (fun u_1 t H1 locs ht1 hvm hw hB hz1 hk1 hS => ?_)
  obtain ⟨hP1, hD1⟩ := hB
  rw [ht1] at hP1
  try dsimp only at hw
  obtain ⟨hP, hD⟩ := va_join (wr := [(s0, .inr (3, [.ref a0, .ref a1, .ref a2, .ref a3, .ref a4, .ref a5, .ref a6, .int 0, .ref a7, .ref a8, .ref a9, .ref a10, .ref a11, .int 0]))]) (w1 := [(h0, .inr (5, [.ref s0, .ref de, .ref kl, .ref tl, .ref cu, .ref hk, .ref ca, .int 0, .int 0, .int (-1), .int 0, .int 0])), (kl, .inr (2, [.ref kx, .ref ky, .int 0])), (tl, .inr (4, [.ref tx, .ref ty, .int 2]))]) hP hD [0, 1, 2] [3] rfl rfl (by decide) (by decide) hk1 hFc hP1 hD1
  generalize H1 = H at hP hS ⊢
  have hP : va_P D vwCl [(s0, .inr (3, [.ref a0, .ref a1, .ref a2, .ref a3, .ref a4, .ref a5, .ref a6, .int 0, .ref a7, .ref a8, .ref a9, .ref a10, .ref a11, .int 0])), (h0, .inr (5, [.ref s0, .ref de, .ref kl, .ref tl, .ref cu, .ref hk, .ref ca, .int 0, .int 0, .int (-1), .int 0, .int 0])), (kl, .inr (2, [.ref kx, .ref ky, .int 0])), (tl, .inr (4, [.ref tx, .ref ty, .int 2]))] H := hP
  have hD : va_D A [(s0, .inr (3, [.ref a0, .ref a1, .ref a2, .ref a3, .ref a4, .ref a5, .ref a6, .int 0, .ref a7, .ref a8, .ref a9, .ref a10, .ref a11, .int 0])), (h0, .inr (5, [.ref s0, .ref de, .ref kl, .ref tl, .ref cu, .ref hk, .ref ca, .int 0, .int 0, .int (-1), .int 0, .int 0])), (kl, .inr (2, [.ref kx, .ref ky, .int 0])), (tl, .inr (4, [.ref tx, .ref ty, .int 2]))] := hD
  have hq_1 := hw
  refine lv_aload_n hx hb dX5_revoke_4 rfl (lv_at hl 0 rfl) ?_
  refine va_get (D := D) (ci := 5) (v := .ref s0) (C := RX5) (T := TX5) (N := 12) hx hb ht inX5 hown hK hP 1 rfl rfl 0 (by decide) (ht _ m_233) (fun _ h9 => h9) rfl dX5_revoke_5 ?_
  refine lv_iload_n hx hb dX5_revoke_8 rfl (lv_at hl 1 rfl) ?_
  have hPc := hP.sub (ws' := [(s0, .inr (3, [.ref a0, .ref a1, .ref a2, .ref a3, .ref a4, .ref a5, .ref a6, .int 0, .ref a7, .ref a8, .ref a9, .ref a10, .ref a11, .int 0]))]) [0] rfl
  have hDc := hD.sub (ws' := [(s0, .inr (3, [.ref a0, .ref a1, .ref a2, .ref a3, .ref a4, .ref a5, .ref a6, .int 0, .ref a7, .ref a8, .ref a9, .ref a10, .ref a11, .int 0]))]) [0] (by decide) rfl
  have hFc := va_free (wc := [(s0, .inr (3, [.ref a0, .ref a1, .ref a2, .ref a3, .ref a4, .ref a5, .ref a6, .int 0, .ref a7, .ref a8, .ref a9, .ref a10, .ref a11, .int 0]))]) hD hS hA [0] rfl
  refine va_calli (va_runV (As := [.int p0]) (rest := []) ⟨hx, hb, hml, hown, ht⟩ (k3_isProxy0 l D C b0 H.size s0 a0 a1 a2 a3 a4 a5 a6 a7 a8 a9 a10 a11 p0) (cwV 1 ht (xg_V m_302 m_303 m_304 m_217 m_160) rfl rfl rfl (by decide +kernel) ⟨Nat.le_of_ble_eq_true rfl, Nat.le_of_ble_eq_true rfl⟩) ⟨xPc_bl, va_recv hK hPc (ci := 3) (q0 := 0) rfl rfl, xPc_at hPc hK hDc hE hS hAb⟩ rfl rfl hl.1 rfl (lv_room (Nat.le_of_ble_eq_true rfl)) dX5_revoke_9 ⟨(by decide), (by decide)⟩) hS (fun q _ h => hFc q h) hFc (fun r_2 u_3 t H1 locs ht1 hvm hw hB hz1 hk1 hS => ?_)
  obtain ⟨hP1, hD1⟩ := hB
  rw [ht1] at hP1
  try dsimp only at hw
  obtain ⟨hP, hD⟩ := va_join (wr := [(h0, .inr (5, [.ref s0, .ref de, .ref kl, .ref tl, .ref cu, .ref hk, .ref ca, .int 0, .int 0, .int (-1), .int 0, .int 0])), (kl, .inr (2, [.ref kx, .ref ky, .int 0])), (tl, .inr (4, [.ref tx, .ref ty, .int 2]))]) (w1 := [(s0, .inr (3, [.ref a0, .ref a1, .ref a2, .ref a3, .ref a4, .ref a5, .ref a6, .int 0, .ref a7, .ref a8, .ref a9, .ref a10, .ref a11, .int 0]))]) hP hD [0] [1, 2, 3] rfl rfl (by decide) (by decide) hk1 hFc hP1 hD1
  generalize H1 = H at hP hS ⊢
  have hP : va_P D vwCl [(h0, .inr (5, [.ref s0, .ref de, .ref kl, .ref tl, .ref cu, .ref hk, .ref ca, .int 0, .int 0, .int (-1), .int 0, .int 0])), (kl, .inr (2, [.ref kx, .ref ky, .int 0])), (tl, .inr (4, [.ref tx, .ref ty, .int 2])), (s0, .inr (3, [.ref a0, .ref a1, .ref a2, .ref a3, .ref a4, .ref a5, .ref a6, .int 0, .ref a7, .ref a8, .ref a9, .ref a10, .ref a11, .int 0]))] H := hP
  have hD : va_D A [(h0, .inr (5, [.ref s0, .ref de, .ref kl, .ref tl, .ref cu, .ref hk, .ref ca, .int 0, .int 0, .int (-1), .int 0, .int 0])), (kl, .inr (2, [.ref kx, .ref ky, .int 0])), (tl, .inr (4, [.ref tx, .ref ty, .int 2])), (s0, .inr (3, [.ref a0, .ref a1, .ref a2, .ref a3, .ref a4, .ref a5, .ref a6, .int 0, .ref a7, .ref a8, .ref a9, .ref a10, .ref a11, .int 0]))] := hD
  have hq_9 := hw
  obtain rfl : r_2 = (0 : Int32) := hw
  refine lv_if_ne (tgt := 25) hx hb dX5_revoke_12 (by decide) (fun c_12 => ?_) (fun c_12 => ?_)
  · exact absurd c_12 (by decide)
  exact x_thrI (text := "no PROXY") (mc := 3) (ms := 18) hx hb hl0 hown ht hE hAb (by decide +kernel) hS (by rw [hml]; exact hl.1) dX5_revoke_15 dX5_revoke_18 dX5_revoke_19 dX5_revoke_21 dX5_revoke_24 htab (Nat.le_of_ble_eq_true rfl) (Nat.le_of_ble_eq_true rfl) (by decide) (by decide) hlocks (fun t hv1 hz1 hq1 => ⟨(), by first | trivial | assumption | (simp_all; done), rfl, x_F hS hz1 hq1⟩) hS.2.2 (by decide) (by decide)
set_option maxHeartbeats 4000000 in
set_option maxRecDepth 100000 in
theorem k5_key (l : Launch) (hl0 : l.stackTraces = false) (D : va_G) (C : Nat → ClassId) (b0 sz : Nat) (h0 : Nat) (s0 : Nat) (de : Nat) (kl : Nat) (tl : Nat) (cu : Nat) (hk : Nat) (ca : Nat) (kx : Nat) (ky : Nat) (tx : Nat) (ty : Nat) (a0 : Nat) (a1 : Nat) (a2 : Nat) (a3 : Nat) (a4 : Nat) (a5 : Nat) (a6 : Nat) (a7 : Nat) (a8 : Nat) (a9 : Nat) (a10 : Nat) (a11 : Nat) (p0 : Int32) : vx_Met l yX5_key (xw yX5_key cX5_key 2 (some .int)) ({ frames := 48, cells := 3, slots := 18, locals := 900 }) (xPc D C b0 [.ref h0, .int p0] [(h0, .inr (5, [.ref s0, .ref de, .ref kl, .ref tl, .ref cu, .ref hk, .ref ca, .int 0, .int 0, .int (-1), .int 0, .int 0])), (kl, .inr (2, [.ref kx, .ref ky, .int 0])), (tl, .inr (4, [.ref tx, .ref ty, .int 1])), (s0, .inr (3, [.ref a0, .ref a1, .ref a2, .ref a3, .ref a4, .ref a5, .ref a6, .int 0, .ref a7, .ref a8, .ref a9, .ref a10, .ref a11, .int 0]))] sz) (va_Qi (fun (r : Int32) (u : xS) => False) (xBw D (va_A [(h0, .inr (5, [.ref s0, .ref de, .ref kl, .ref tl, .ref cu, .ref hk, .ref ca, .int 0, .int 0, .int (-1), .int 0, .int 0])), (kl, .inr (2, [.ref kx, .ref ky, .int 0])), (tl, .inr (4, [.ref tx, .ref ty, .int 1])), (s0, .inr (3, [.ref a0, .ref a1, .ref a2, .ref a3, .ref a4, .ref a5, .ref a6, .int 0, .ref a7, .ref a8, .ref a9, .ref a10, .ref a11, .int 0]))] sz) (fun u => [])) (va_A [(h0, .inr (5, [.ref s0, .ref de, .ref kl, .ref tl, .ref cu, .ref hk, .ref ca, .int 0, .int 0, .int (-1), .int 0, .int 0])), (kl, .inr (2, [.ref kx, .ref ky, .int 0])), (tl, .inr (4, [.ref tx, .ref ty, .int 1])), (s0, .inr (3, [.ref a0, .ref a1, .ref a2, .ref a3, .ref a4, .ref a5, .ref a6, .int 0, .ref a7, .ref a8, .ref a9, .ref a10, .ref a11, .int 0]))] sz)) (xX xIOB (True) (va_A [(h0, .inr (5, [.ref s0, .ref de, .ref kl, .ref tl, .ref cu, .ref hk, .ref ca, .int 0, .int 0, .int (-1), .int 0, .int 0])), (kl, .inr (2, [.ref kx, .ref ky, .int 0])), (tl, .inr (4, [.ref tx, .ref ty, .int 1])), (s0, .inr (3, [.ref a0, .ref a1, .ref a2, .ref a3, .ref a4, .ref a5, .ref a6, .int 0, .ref a7, .ref a8, .ref a9, .ref a10, .ref a11, .int 0]))] sz)) 3 18 (va_A [(h0, .inr (5, [.ref s0, .ref de, .ref kl, .ref tl, .ref cu, .ref hk, .ref ca, .int 0, .int 0, .int (-1), .int 0, .int 0])), (kl, .inr (2, [.ref kx, .ref ky, .int 0])), (tl, .inr (4, [.ref tx, .ref ty, .int 1])), (s0, .inr (3, [.ref a0, .ref a1, .ref a2, .ref a3, .ref a4, .ref a5, .ref a6, .int 0, .ref a7, .ref a8, .ref a9, .ref a10, .ref a11, .int 0]))] sz) := by
  refine vx_ofW (cc := cX5_key) (maxL := 2) (ret := (some .int)) (by decide) rfl ?_
  intro p e s m args below meth c s₁ B hml htab hv
  obtain ⟨rfl, hsz, hP, hK, hD0, hE⟩ := hv
  have hx := B.exec
  have hb := B.bytes
  have hr := B.returns
  have ht : ∀ w ∈ xb, w.before _ s = true := fun w h => atoms_spec (ws := xw yX5_key cX5_key 2 (some .int)) B.pre w (List.mem_cons_of_mem _ h)
  have hown : s.vm.findClass RX5 = some m.cls := findClass_of_methodNamed B.named
  have hlocks := B.notSynchronized
  subst hsz
  have hAb := x_Ab hD0 hE.1
  have hD := hD0.self (sz := s.heap.size)
  generalize hAe : va_A [(h0, .inr (5, [.ref s0, .ref de, .ref kl, .ref tl, .ref cu, .ref hk, .ref ca, .int 0, .int 0, .int (-1), .int 0, .int 0])), (kl, .inr (2, [.ref kx, .ref ky, .int 0])), (tl, .inr (4, [.ref tx, .ref ty, .int 1])), (s0, .inr (3, [.ref a0, .ref a1, .ref a2, .ref a3, .ref a4, .ref a5, .ref a6, .int 0, .ref a7, .ref a8, .ref a9, .ref a10, .ref a11, .int 0]))] s.heap.size = A at hD hAb ⊢
  have hA : ∀ q : Nat, s.heap.size ≤ q → A q := fun q h => by rw [← hAe]; exact Or.inr h
  have hS : va_S A s.heap s.heap [] := va_S.rf
  have hP : va_P D vwCl [(h0, .inr (5, [.ref s0, .ref de, .ref kl, .ref tl, .ref cu, .ref hk, .ref ca, .int 0, .int 0, .int (-1), .int 0, .int 0])), (kl, .inr (2, [.ref kx, .ref ky, .int 0])), (tl, .inr (4, [.ref tx, .ref ty, .int 1])), (s0, .inr (3, [.ref a0, .ref a1, .ref a2, .ref a3, .ref a4, .ref a5, .ref a6, .int 0, .ref a7, .ref a8, .ref a9, .ref a10, .ref a11, .int 0]))] s.heap := hP
  have hl := lv_entry ([.ref h0, .int p0]) (n := 2) (Nat.le_of_ble_eq_true rfl)
  rw [lg_entry_eq]
  generalize (lg_sl ([.ref h0, .int p0]) ++ List.replicate (2 - (lg_sl ([.ref h0, .int p0])).length) Slot.unset).toArray = ls at hl ⊢
  have hl : lv_has ls 2 [(0, .ref h0), (1, .int p0)] := hl
  refine lv_iload_n hx hb dX5_key_0 rfl (lv_at hl 1 rfl) ?_
  refine lv_if_lt (tgt := 21) hx hb dX5_key_1 (by decide) (fun c_1 => ?_) (fun c_1 => ?_)
  · skip
    exact x_thrO (text := "no such one of THE KEYS") (mc := 3) (ms := 18) hx hb hl0 hown ht hE hAb (by decide +kernel) hS (by rw [hml]; exact hl.1) dX5_key_21 dX5_key_24 dX5_key_25 dX5_key_27 dX5_key_30 htab (Nat.le_of_ble_eq_true rfl) (Nat.le_of_ble_eq_true rfl) (by decide) (by decide) hlocks (fun t hv1 hz1 hq1 => ⟨(), by first | trivial | assumption | (simp_all; done), rfl, x_F hS hz1 hq1⟩) hS.2.2 (by decide) (by decide)
  · skip
    refine lv_iload_n hx hb dX5_key_4 rfl (lv_at hl 1 rfl) ?_
    refine lv_aload_n hx hb dX5_key_5 rfl (lv_at hl 0 rfl) ?_
    refine va_get (D := D) (ci := 5) (v := .int 0) (C := RX5) (T := TX5) (N := 12) hx hb ht inX5 hown hK hP 0 rfl rfl 7 (by decide) (ht _ m_305) (fun _ h9 => h9) rfl dX5_key_6 ?_
    refine lv_icmp_ge (tgt := 21) hx hb dX5_key_9 (by decide) (fun c_9 => ?_) (fun c_9 => ?_)
    · skip
      exact x_thrO (text := "no such one of THE KEYS") (mc := 3) (ms := 18) hx hb hl0 hown ht hE hAb (by decide +kernel) hS (by rw [hml]; exact hl.1) dX5_key_21 dX5_key_24 dX5_key_25 dX5_key_27 dX5_key_30 htab (Nat.le_of_ble_eq_true rfl) (Nat.le_of_ble_eq_true rfl) (by decide) (by decide) hlocks (fun t hv1 hz1 hq1 => ⟨(), by first | trivial | assumption | (simp_all; done), rfl, x_F hS hz1 hq1⟩) hS.2.2 (by decide) (by decide)
    · exact absurd (x_ge c_1) c_9
set_option maxHeartbeats 4000000 in
set_option maxRecDepth 100000 in
theorem k5_count (l : Launch) (hl0 : l.stackTraces = false) (D : va_G) (C : Nat → ClassId) (b0 sz : Nat) (h0 : Nat) (s0 : Nat) (de : Nat) (kl : Nat) (tl : Nat) (cu : Nat) (hk : Nat) (ca : Nat) (kx : Nat) (ky : Nat) (tx : Nat) (ty : Nat) (a0 : Nat) (a1 : Nat) (a2 : Nat) (a3 : Nat) (a4 : Nat) (a5 : Nat) (a6 : Nat) (a7 : Nat) (a8 : Nat) (a9 : Nat) (a10 : Nat) (a11 : Nat) (p0 : Int32) : vx_Met l yX5_count (xw yX5_count cX5_count 2 (some .int)) ({ frames := 48, cells := 3, slots := 18, locals := 900 }) (xPc D C b0 [.ref h0, .int p0] [(h0, .inr (5, [.ref s0, .ref de, .ref kl, .ref tl, .ref cu, .ref hk, .ref ca, .int 0, .int 0, .int (-1), .int 0, .int 0])), (kl, .inr (2, [.ref kx, .ref ky, .int 0])), (tl, .inr (4, [.ref tx, .ref ty, .int 1])), (s0, .inr (3, [.ref a0, .ref a1, .ref a2, .ref a3, .ref a4, .ref a5, .ref a6, .int 0, .ref a7, .ref a8, .ref a9, .ref a10, .ref a11, .int 0]))] sz) (va_Qi (fun (r : Int32) (u : xS) => (p0 = 0 ∨ p0 = 1 ∨ p0 = 2 ∨ p0 = 3) ∧ r = (if p0 = 3 then -1 else 0)) (xBw D (va_A [(h0, .inr (5, [.ref s0, .ref de, .ref kl, .ref tl, .ref cu, .ref hk, .ref ca, .int 0, .int 0, .int (-1), .int 0, .int 0])), (kl, .inr (2, [.ref kx, .ref ky, .int 0])), (tl, .inr (4, [.ref tx, .ref ty, .int 1])), (s0, .inr (3, [.ref a0, .ref a1, .ref a2, .ref a3, .ref a4, .ref a5, .ref a6, .int 0, .ref a7, .ref a8, .ref a9, .ref a10, .ref a11, .int 0]))] sz) (fun u => [])) (va_A [(h0, .inr (5, [.ref s0, .ref de, .ref kl, .ref tl, .ref cu, .ref hk, .ref ca, .int 0, .int 0, .int (-1), .int 0, .int 0])), (kl, .inr (2, [.ref kx, .ref ky, .int 0])), (tl, .inr (4, [.ref tx, .ref ty, .int 1])), (s0, .inr (3, [.ref a0, .ref a1, .ref a2, .ref a3, .ref a4, .ref a5, .ref a6, .int 0, .ref a7, .ref a8, .ref a9, .ref a10, .ref a11, .int 0]))] sz)) (xX xIAE (¬ (p0 = 0 ∨ p0 = 1 ∨ p0 = 2 ∨ p0 = 3)) (va_A [(h0, .inr (5, [.ref s0, .ref de, .ref kl, .ref tl, .ref cu, .ref hk, .ref ca, .int 0, .int 0, .int (-1), .int 0, .int 0])), (kl, .inr (2, [.ref kx, .ref ky, .int 0])), (tl, .inr (4, [.ref tx, .ref ty, .int 1])), (s0, .inr (3, [.ref a0, .ref a1, .ref a2, .ref a3, .ref a4, .ref a5, .ref a6, .int 0, .ref a7, .ref a8, .ref a9, .ref a10, .ref a11, .int 0]))] sz)) 3 18 (va_A [(h0, .inr (5, [.ref s0, .ref de, .ref kl, .ref tl, .ref cu, .ref hk, .ref ca, .int 0, .int 0, .int (-1), .int 0, .int 0])), (kl, .inr (2, [.ref kx, .ref ky, .int 0])), (tl, .inr (4, [.ref tx, .ref ty, .int 1])), (s0, .inr (3, [.ref a0, .ref a1, .ref a2, .ref a3, .ref a4, .ref a5, .ref a6, .int 0, .ref a7, .ref a8, .ref a9, .ref a10, .ref a11, .int 0]))] sz) := by
  refine vx_ofW (cc := cX5_count) (maxL := 2) (ret := (some .int)) (by decide) rfl ?_
  intro p e s m args below meth c s₁ B hml htab hv
  obtain ⟨rfl, hsz, hP, hK, hD0, hE⟩ := hv
  have hx := B.exec
  have hb := B.bytes
  have hr := B.returns
  have ht : ∀ w ∈ xb, w.before _ s = true := fun w h => atoms_spec (ws := xw yX5_count cX5_count 2 (some .int)) B.pre w (List.mem_cons_of_mem _ h)
  have hown : s.vm.findClass RX5 = some m.cls := findClass_of_methodNamed B.named
  have hlocks := B.notSynchronized
  subst hsz
  have hAb := x_Ab hD0 hE.1
  have hD := hD0.self (sz := s.heap.size)
  generalize hAe : va_A [(h0, .inr (5, [.ref s0, .ref de, .ref kl, .ref tl, .ref cu, .ref hk, .ref ca, .int 0, .int 0, .int (-1), .int 0, .int 0])), (kl, .inr (2, [.ref kx, .ref ky, .int 0])), (tl, .inr (4, [.ref tx, .ref ty, .int 1])), (s0, .inr (3, [.ref a0, .ref a1, .ref a2, .ref a3, .ref a4, .ref a5, .ref a6, .int 0, .ref a7, .ref a8, .ref a9, .ref a10, .ref a11, .int 0]))] s.heap.size = A at hD hAb ⊢
  have hA : ∀ q : Nat, s.heap.size ≤ q → A q := fun q h => by rw [← hAe]; exact Or.inr h
  have hS : va_S A s.heap s.heap [] := va_S.rf
  have hP : va_P D vwCl [(h0, .inr (5, [.ref s0, .ref de, .ref kl, .ref tl, .ref cu, .ref hk, .ref ca, .int 0, .int 0, .int (-1), .int 0, .int 0])), (kl, .inr (2, [.ref kx, .ref ky, .int 0])), (tl, .inr (4, [.ref tx, .ref ty, .int 1])), (s0, .inr (3, [.ref a0, .ref a1, .ref a2, .ref a3, .ref a4, .ref a5, .ref a6, .int 0, .ref a7, .ref a8, .ref a9, .ref a10, .ref a11, .int 0]))] s.heap := hP
  have hl := lv_entry ([.ref h0, .int p0]) (n := 2) (Nat.le_of_ble_eq_true rfl)
  rw [lg_entry_eq]
  generalize (lg_sl ([.ref h0, .int p0]) ++ List.replicate (2 - (lg_sl ([.ref h0, .int p0])).length) Slot.unset).toArray = ls at hl ⊢
  have hl : lv_has ls 2 [(0, .ref h0), (1, .int p0)] := hl
  refine lv_iload_n hx hb dX5_count_0 rfl (lv_at hl 1 rfl) ?_
  by_cases n_0 : p0 = 0
  · skip
    subst n_0
    refine lv_tableIn (off := 31) (tgt := 32) hx hb dX5_count_1 (by decide) (by decide) (by decide) (by decide) ?_
    refine lv_aload_n hx hb dX5_count_32 rfl (lv_at hl 0 rfl) ?_
    refine va_get (D := D) (ci := 5) (v := .ref s0) (C := RX5) (T := TX5) (N := 12) hx hb ht inX5 hown hK hP 0 rfl rfl 0 (by decide) (ht _ m_233) (fun _ h9 => h9) rfl dX5_count_33 ?_
    have hPc := hP.sub (ws' := [(s0, .inr (3, [.ref a0, .ref a1, .ref a2, .ref a3, .ref a4, .ref a5, .ref a6, .int 0, .ref a7, .ref a8, .ref a9, .ref a10, .ref a11, .int 0]))]) [3] rfl
    have hDc := hD.sub (ws' := [(s0, .inr (3, [.ref a0, .ref a1, .ref a2, .ref a3, .ref a4, .ref a5, .ref a6, .int 0, .ref a7, .ref a8, .ref a9, .ref a10, .ref a11, .int 0]))]) [3] (by decide) rfl
    have hFc := va_free (wc := [(s0, .inr (3, [.ref a0, .ref a1, .ref a2, .ref a3, .ref a4, .ref a5, .ref a6, .int 0, .ref a7, .ref a8, .ref a9, .ref a10, .ref a11, .int 0]))]) hD hS hA [3] rfl
    refine va_calli (va_runV (As := []) (rest := []) ⟨hx, hb, hml, hown, ht⟩ (k3_size0 l D C b0 s.heap.size s0 a0 a1 a2 a3 a4 a5 a6 a7 a8 a9 a10 a11) (cwV 0 ht (xg_V m_306 m_307 m_308 m_217 m_161) rfl rfl rfl (by decide +kernel) ⟨Nat.le_of_ble_eq_true rfl, Nat.le_of_ble_eq_true rfl⟩) ⟨xPc_bl, va_recv hK hPc (ci := 3) (q0 := 0) rfl rfl, xPc_at hPc hK hDc hE hS hAb⟩ rfl rfl hl.1 rfl (lv_room (Nat.le_of_ble_eq_true rfl)) dX5_count_36 ⟨(by decide), (by decide)⟩) hS (fun q _ h => hFc q h) hFc (fun r_1 u_2 t H1 locs ht1 hvm hw hB hz1 hk1 hS => ?_)
    obtain ⟨hP1, hD1⟩ := hB
    rw [ht1] at hP1
    try dsimp only at hw
    obtain ⟨hP, hD⟩ := va_join (wr := [(h0, .inr (5, [.ref s0, .ref de, .ref kl, .ref tl, .ref cu, .ref hk, .ref ca, .int 0, .int 0, .int (-1), .int 0, .int 0])), (kl, .inr (2, [.ref kx, .ref ky, .int 0])), (tl, .inr (4, [.ref tx, .ref ty, .int 1]))]) (w1 := [(s0, .inr (3, [.ref a0, .ref a1, .ref a2, .ref a3, .ref a4, .ref a5, .ref a6, .int 0, .ref a7, .ref a8, .ref a9, .ref a10, .ref a11, .int 0]))]) hP hD [3] [0, 1, 2] rfl rfl (by decide) (by decide) hk1 hFc hP1 hD1
    generalize H1 = H at hP hS ⊢
    have hP : va_P D vwCl [(h0, .inr (5, [.ref s0, .ref de, .ref kl, .ref tl, .ref cu, .ref hk, .ref ca, .int 0, .int 0, .int (-1), .int 0, .int 0])), (kl, .inr (2, [.ref kx, .ref ky, .int 0])), (tl, .inr (4, [.ref tx, .ref ty, .int 1])), (s0, .inr (3, [.ref a0, .ref a1, .ref a2, .ref a3, .ref a4, .ref a5, .ref a6, .int 0, .ref a7, .ref a8, .ref a9, .ref a10, .ref a11, .int 0]))] H := hP
    have hD : va_D A [(h0, .inr (5, [.ref s0, .ref de, .ref kl, .ref tl, .ref cu, .ref hk, .ref ca, .int 0, .int 0, .int (-1), .int 0, .int 0])), (kl, .inr (2, [.ref kx, .ref ky, .int 0])), (tl, .inr (4, [.ref tx, .ref ty, .int 1])), (s0, .inr (3, [.ref a0, .ref a1, .ref a2, .ref a3, .ref a4, .ref a5, .ref a6, .int 0, .ref a7, .ref a8, .ref a9, .ref a10, .ref a11, .int 0]))] := hD
    have hq_36 := hw
    obtain rfl : r_1 = (0 : Int32) := hw
    have hP9 := hP.sub (ws' := []) [] rfl
    have hD9 := hD.sub (ws' := []) [] (by decide) rfl
    refine W.widen (k := 3) (n := 18) (by decide) (by decide) ?_
    refine vx_ret ?_
    exact W.iret (v := 0) hx hb hr (fun t ht1 hW => ⟨⟨0, (xA [], xF []), rfl, by decide, by rw [ht1]; exact hP9, hD9⟩, hS.F ht1⟩) hS.2.2 dX5_count_39
  by_cases n_1 : p0 = 1
  · skip
    subst n_1
    refine lv_tableIn (off := 39) (tgt := 40) hx hb dX5_count_1 (by decide) (by decide) (by decide) (by decide) ?_
    refine lv_aload_n hx hb dX5_count_40 rfl (lv_at hl 0 rfl) ?_
    refine va_get (D := D) (ci := 5) (v := .int 0) (C := RX5) (T := TX5) (N := 12) hx hb ht inX5 hown hK hP 0 rfl rfl 8 (by decide) (ht _ m_222) (fun _ h9 => h9) rfl dX5_count_41 ?_
    have hP9 := hP.sub (ws' := []) [] rfl
    have hD9 := hD.sub (ws' := []) [] (by decide) rfl
    refine W.widen (k := 3) (n := 18) (by decide) (by decide) ?_
    refine vx_ret ?_
    exact W.iret (v := 0) hx hb hr (fun t ht1 hW => ⟨⟨0, (xA [], xF []), rfl, by decide, by rw [ht1]; exact hP9, hD9⟩, hS.F ht1⟩) hS.2.2 dX5_count_44
  by_cases n_2 : p0 = 2
  · skip
    subst n_2
    refine lv_tableIn (off := 44) (tgt := 45) hx hb dX5_count_1 (by decide) (by decide) (by decide) (by decide) ?_
    refine lv_aload_n hx hb dX5_count_45 rfl (lv_at hl 0 rfl) ?_
    refine va_get (D := D) (ci := 5) (v := .int 0) (C := RX5) (T := TX5) (N := 12) hx hb ht inX5 hown hK hP 0 rfl rfl 7 (by decide) (ht _ m_305) (fun _ h9 => h9) rfl dX5_count_46 ?_
    have hP9 := hP.sub (ws' := []) [] rfl
    have hD9 := hD.sub (ws' := []) [] (by decide) rfl
    refine W.widen (k := 3) (n := 18) (by decide) (by decide) ?_
    refine vx_ret ?_
    exact W.iret (v := 0) hx hb hr (fun t ht1 hW => ⟨⟨0, (xA [], xF []), rfl, by decide, by rw [ht1]; exact hP9, hD9⟩, hS.F ht1⟩) hS.2.2 dX5_count_49
  by_cases n_3 : p0 = 3
  · skip
    subst n_3
    refine lv_tableIn (off := 49) (tgt := 50) hx hb dX5_count_1 (by decide) (by decide) (by decide) (by decide) ?_
    refine lv_aload_n hx hb dX5_count_50 rfl (lv_at hl 0 rfl) ?_
    refine va_get (D := D) (ci := 5) (v := .int (-1)) (C := RX5) (T := TX5) (N := 12) hx hb ht inX5 hown hK hP 0 rfl rfl 9 (by decide) (ht _ m_309) (fun _ h9 => h9) rfl dX5_count_51 ?_
    have hP9 := hP.sub (ws' := []) [] rfl
    have hD9 := hD.sub (ws' := []) [] (by decide) rfl
    refine W.widen (k := 3) (n := 18) (by decide) (by decide) ?_
    refine vx_ret ?_
    exact W.iret (v := (-1)) hx hb hr (fun t ht1 hW => ⟨⟨(-1), (xA [], xF []), rfl, by decide, by rw [ht1]; exact hP9, hD9⟩, hS.F ht1⟩) hS.2.2 dX5_count_54
  refine lv_tableOut (tgt := 55) hx hb dX5_count_1 (x_out4 n_0 n_1 n_2 n_3) (by decide) ?_
  exact x_thrI (text := "count tells 0 to 3") (mc := 3) (ms := 18) hx hb hl0 hown ht hE hAb (by decide +kernel) hS (by rw [hml]; exact hl.1) dX5_count_55 dX5_count_58 dX5_count_59 dX5_count_61 dX5_count_64 htab (Nat.le_of_ble_eq_true rfl) (Nat.le_of_ble_eq_true rfl) (by decide) (by decide) hlocks (fun t hv1 hz1 hq1 => ⟨(), fun h => h.elim n_0 (fun h => h.elim n_1 (fun h => h.elim n_2 n_3)), rfl, x_F hS hz1 hq1⟩) hS.2.2 (by decide) (by decide)
set_option maxHeartbeats 4000000 in
set_option maxRecDepth 100000 in
theorem k5_call (l : Launch) (D : va_G) (C : Nat → ClassId) (b0 sz : Nat) (h0 : Nat) (s0 : Nat) (de : Nat) (kl : Nat) (tl : Nat) (cu : Nat) (hk : Nat) (ca : Nat) (kx : Nat) (ky : Nat) (tx : Nat) (ty : Nat) (a0 : Nat) (a1 : Nat) (a2 : Nat) (a3 : Nat) (a4 : Nat) (a5 : Nat) (a6 : Nat) (a7 : Nat) (a8 : Nat) (a9 : Nat) (a10 : Nat) (a11 : Nat) (p0 : Int32) : Met l yX5_call (xw yX5_call cX5_call 2 (some .int)) ({ frames := 8, cells := 0, slots := 0, locals := 150 }) (xPc D C b0 [.ref h0, .int p0] [(h0, .inr (5, [.ref s0, .ref de, .ref kl, .ref tl, .ref cu, .ref hk, .ref ca, .int 0, .int 0, .int (-1), .int 0, .int 0])), (kl, .inr (2, [.ref kx, .ref ky, .int 0])), (tl, .inr (4, [.ref tx, .ref ty, .int 1])), (s0, .inr (3, [.ref a0, .ref a1, .ref a2, .ref a3, .ref a4, .ref a5, .ref a6, .int 0, .ref a7, .ref a8, .ref a9, .ref a10, .ref a11, .int 0]))] sz) (va_Qi (fun (r : Int32) (u : xS) => r = -1) (xBw D (va_A [(h0, .inr (5, [.ref s0, .ref de, .ref kl, .ref tl, .ref cu, .ref hk, .ref ca, .int 0, .int 0, .int (-1), .int 0, .int 0])), (kl, .inr (2, [.ref kx, .ref ky, .int 0])), (tl, .inr (4, [.ref tx, .ref ty, .int 1])), (s0, .inr (3, [.ref a0, .ref a1, .ref a2, .ref a3, .ref a4, .ref a5, .ref a6, .int 0, .ref a7, .ref a8, .ref a9, .ref a10, .ref a11, .int 0]))] sz) (fun u => [])) (va_A [(h0, .inr (5, [.ref s0, .ref de, .ref kl, .ref tl, .ref cu, .ref hk, .ref ca, .int 0, .int 0, .int (-1), .int 0, .int 0])), (kl, .inr (2, [.ref kx, .ref ky, .int 0])), (tl, .inr (4, [.ref tx, .ref ty, .int 1])), (s0, .inr (3, [.ref a0, .ref a1, .ref a2, .ref a3, .ref a4, .ref a5, .ref a6, .int 0, .ref a7, .ref a8, .ref a9, .ref a10, .ref a11, .int 0]))] sz)) 0 0 (va_A [(h0, .inr (5, [.ref s0, .ref de, .ref kl, .ref tl, .ref cu, .ref hk, .ref ca, .int 0, .int 0, .int (-1), .int 0, .int 0])), (kl, .inr (2, [.ref kx, .ref ky, .int 0])), (tl, .inr (4, [.ref tx, .ref ty, .int 1])), (s0, .inr (3, [.ref a0, .ref a1, .ref a2, .ref a3, .ref a4, .ref a5, .ref a6, .int 0, .ref a7, .ref a8, .ref a9, .ref a10, .ref a11, .int 0]))] sz) := by
  refine Met.ofW (cc := cX5_call) (maxL := 2) (ret := (some .int)) (by decide) rfl ?_
  intro p e s m args below meth c s₁ B hml hv
  obtain ⟨rfl, hsz, hP, hK, hD0, hE⟩ := hv
  have hx := B.exec
  have hb := B.bytes
  have hr := B.returns
  have ht : ∀ w ∈ xb, w.before _ s = true := fun w h => atoms_spec (ws := xw yX5_call cX5_call 2 (some .int)) B.pre w (List.mem_cons_of_mem _ h)
  have hown : s.vm.findClass RX5 = some m.cls := findClass_of_methodNamed B.named
  have hlocks := B.notSynchronized
  subst hsz
  have hAb := x_Ab hD0 hE.1
  have hD := hD0.self (sz := s.heap.size)
  generalize hAe : va_A [(h0, .inr (5, [.ref s0, .ref de, .ref kl, .ref tl, .ref cu, .ref hk, .ref ca, .int 0, .int 0, .int (-1), .int 0, .int 0])), (kl, .inr (2, [.ref kx, .ref ky, .int 0])), (tl, .inr (4, [.ref tx, .ref ty, .int 1])), (s0, .inr (3, [.ref a0, .ref a1, .ref a2, .ref a3, .ref a4, .ref a5, .ref a6, .int 0, .ref a7, .ref a8, .ref a9, .ref a10, .ref a11, .int 0]))] s.heap.size = A at hD hAb ⊢
  have hA : ∀ q : Nat, s.heap.size ≤ q → A q := fun q h => by rw [← hAe]; exact Or.inr h
  have hS : va_S A s.heap s.heap [] := va_S.rf
  have hP : va_P D vwCl [(h0, .inr (5, [.ref s0, .ref de, .ref kl, .ref tl, .ref cu, .ref hk, .ref ca, .int 0, .int 0, .int (-1), .int 0, .int 0])), (kl, .inr (2, [.ref kx, .ref ky, .int 0])), (tl, .inr (4, [.ref tx, .ref ty, .int 1])), (s0, .inr (3, [.ref a0, .ref a1, .ref a2, .ref a3, .ref a4, .ref a5, .ref a6, .int 0, .ref a7, .ref a8, .ref a9, .ref a10, .ref a11, .int 0]))] s.heap := hP
  have hl := lv_entry ([.ref h0, .int p0]) (n := 2) (Nat.le_of_ble_eq_true rfl)
  rw [lg_entry_eq]
  generalize (lg_sl ([.ref h0, .int p0]) ++ List.replicate (2 - (lg_sl ([.ref h0, .int p0])).length) Slot.unset).toArray = ls at hl ⊢
  have hl : lv_has ls 2 [(0, .ref h0), (1, .int p0)] := hl
  refine lv_iload_n hx hb dX5_call_0 rfl (lv_at hl 1 rfl) ?_
  refine lv_if_lt (tgt := 30) hx hb dX5_call_1 (by decide) (fun c_1 => ?_) (fun c_1 => ?_)
  · skip
    refine lv_iconst (v := (-1)) hx hb dX5_call_30 (by decide) ?_
    have hP9 := hP.sub (ws' := []) [] rfl
    have hD9 := hD.sub (ws' := []) [] (by decide) rfl
    refine W.widen (k := 0) (n := 0) (by decide) (by decide) ?_
    exact W.iret (v := (-1)) hx hb hr (fun t ht1 hW => ⟨⟨(-1), (xA [], xF []), rfl, by first | trivial | rfl | assumption | decide | (simp_all; done), by rw [ht1]; exact hP9, hD9⟩, hS.F ht1⟩) hS.2.2 dX5_call_31
  · skip
    refine lv_iload_n hx hb dX5_call_4 rfl (lv_at hl 1 rfl) ?_
    refine lv_aload_n hx hb dX5_call_5 rfl (lv_at hl 0 rfl) ?_
    refine va_get (D := D) (ci := 5) (v := .int 0) (C := RX5) (T := TX5) (N := 12) hx hb ht inX5 hown hK hP 0 rfl rfl 8 (by decide) (ht _ m_222) (fun _ h9 => h9) rfl dX5_call_6 ?_
    refine lv_icmp_ge (tgt := 30) hx hb dX5_call_9 (by decide) (fun c_9 => ?_) (fun c_9 => ?_)
    · skip
      refine lv_iconst (v := (-1)) hx hb dX5_call_30 (by decide) ?_
      have hP9 := hP.sub (ws' := []) [] rfl
      have hD9 := hD.sub (ws' := []) [] (by decide) rfl
      refine W.widen (k := 0) (n := 0) (by decide) (by decide) ?_
      exact W.iret (v := (-1)) hx hb hr (fun t ht1 hW => ⟨⟨(-1), (xA [], xF []), rfl, by first | trivial | rfl | assumption | decide | (simp_all; done), by rw [ht1]; exact hP9, hD9⟩, hS.F ht1⟩) hS.2.2 dX5_call_31
    · exact absurd (x_ge c_1) c_9
end
section
set_option maxHeartbeats 4000000 in
set_option maxRecDepth 100000 in
theorem k3_init (l : Launch) (D : va_G) (C : Nat → ClassId) (b0 sz : Nat) (h0 : Nat) : Met l yX3_init (xw yX3_init cX3_init 2 none) ({ frames := 8, cells := 12, slots := 34195, locals := 150 }) (xPc D C b0 [.ref h0] [(h0, .inr (3, [.null, .null, .null, .null, .null, .null, .null, .int 0, .null, .null, .null, .null, .null, .int 0]))] sz) (va_Qv (fun u : xS => True) (xBw D (va_A [(h0, .inr (3, [.null, .null, .null, .null, .null, .null, .null, .int 0, .null, .null, .null, .null, .null, .int 0]))] sz) (fun u => [(h0, .inr (3, [.ref (u.1 0), .ref (u.1 1), .ref (u.1 2), .ref (u.1 3), .ref (u.1 4), .ref (u.1 5), .ref (u.1 6), .int 0, .ref (u.1 7), .ref (u.1 8), .ref (u.1 9), .ref (u.1 10), .ref (u.1 11), .int 0])), (u.1 0, .inl (C 0, 600, .inl (u.2 0))), (u.1 1, .inl (C 0, 600, .inl (u.2 1))), (u.1 2, .inl (C 1, 600, .inl (u.2 2))), (u.1 3, .inl (C 0, 600, .inl (u.2 3))), (u.1 4, .inl (C 0, 600, .inl (u.2 4))), (u.1 5, .inl (C 0, 600, .inl (u.2 5))), (u.1 6, .inl (C 0, 600, .inl (u.2 6))), (u.1 7, .inl (C 0, 5999, .inl (u.2 7))), (u.1 8, .inl (C 0, 5999, .inl (u.2 8))), (u.1 9, .inl (C 0, 5999, .inl (u.2 9))), (u.1 10, .inl (C 0, 5999, .inl (u.2 10))), (u.1 11, .inl (C 0, 5999, .inl (u.2 11)))])) (va_A [(h0, .inr (3, [.null, .null, .null, .null, .null, .null, .null, .int 0, .null, .null, .null, .null, .null, .int 0]))] sz)) 12 34195 (va_A [(h0, .inr (3, [.null, .null, .null, .null, .null, .null, .null, .int 0, .null, .null, .null, .null, .null, .int 0]))] sz) := by
  refine Met.ofW (cc := cX3_init) (maxL := 2) (ret := none) (by decide) rfl ?_
  intro p e s m args below meth c s₁ B hml hv
  obtain ⟨rfl, hsz, hP, hK, hD0, hE⟩ := hv
  have hx := B.exec
  have hb := B.bytes
  have hr := B.returns
  have ht : ∀ w ∈ xb, w.before _ s = true := fun w h => atoms_spec (ws := xw yX3_init cX3_init 2 none) B.pre w (List.mem_cons_of_mem _ h)
  have hown : s.vm.findClass RX3 = some m.cls := findClass_of_methodNamed B.named
  have hlocks := B.notSynchronized
  have hin : meth.name = "<init>" := (name_of_methodNamed B.named B.method).1
  subst hsz
  have hAb := x_Ab hD0 hE.1
  have hD := hD0.self (sz := s.heap.size)
  generalize hAe : va_A [(h0, .inr (3, [.null, .null, .null, .null, .null, .null, .null, .int 0, .null, .null, .null, .null, .null, .int 0]))] s.heap.size = A at hD hAb ⊢
  have hA : ∀ q : Nat, s.heap.size ≤ q → A q := fun q h => by rw [← hAe]; exact Or.inr h
  have hS : va_S A s.heap s.heap [] := va_S.rf
  have hP : va_P D vwCl [(h0, .inr (3, [.null, .null, .null, .null, .null, .null, .null, .int 0, .null, .null, .null, .null, .null, .int 0]))] s.heap := hP
  have hl := lv_entry ([.ref h0]) (n := 2) (Nat.le_of_ble_eq_true rfl)
  rw [lg_entry_eq]
  generalize (lg_sl ([.ref h0]) ++ List.replicate (2 - (lg_sl ([.ref h0])).length) Slot.unset).toArray = ls at hl ⊢
  have hl : lv_has ls 2 [(0, .ref h0)] := hl
  refine lv_aload_n hx hb dX3_init_0 rfl (lv_at hl 0 rfl) ?_
  refine W.objInit hx hb hown (ht _ m_310) (ht _ m_99) (ht _ m_100) rfl (by rw [hml]; exact hl.1) rfl dX3_init_1 (Nat.le_of_ble_eq_true rfl) (Nat.le_of_ble_eq_true rfl) ?_
  refine W.eq (g2 := F0 m 4 ls []) rfl ?_
  refine lv_aload_n hx hb dX3_init_4 rfl (lv_at hl 0 rfl) ?_
  refine lv_sipush (v := 600) hx hb dX3_init_5 (by decide) ?_
  refine va_newa (atype := .int) (ty := .int) (N' := 600) (a0 := (600, .inl (fun _ => 0))) hx hb (ht _ m_205) rfl hK hP hD hS hA (fun _ => rfl) (by decide) (by decide) (by decide) (by decide) (by decide) dX3_init_8 (fun q_1 cA H hK9 hP hD hS => ?_)
  obtain rfl := x_tyI hK9
  refine W.widen (k := 1) (n := 600) (by decide) (by decide) ?_
  have hP : va_P D vwCl [(h0, .inr (3, [.null, .null, .null, .null, .null, .null, .null, .int 0, .null, .null, .null, .null, .null, .int 0])), (q_1, .inl (C 0, 600, .inl (fun _ => 0)))] H := hP
  have hD : va_D A [(h0, .inr (3, [.null, .null, .null, .null, .null, .null, .null, .int 0, .null, .null, .null, .null, .null, .int 0])), (q_1, .inl (C 0, 600, .inl (fun _ => 0)))] := hD
  refine va_putF (D := D) (ci := 3) (v := .ref q_1) (ty := tyX3 0) (C := RX3) (T := TX3) (N := 14) hx hb ht inX3 tyX3 tyX3_ok nmX3 hown hK hP hD hS 0 rfl rfl 0 (by decide) (ht _ m_241) (fun _ h9 => h9) rfl hin rfl (by decide +kernel) rfl rfl (Nat.le_of_ble_eq_true rfl) dX3_init_10 (fun H locs hP hD hS => ?_)
  have hP : va_P D vwCl [(h0, .inr (3, [.ref q_1, .null, .null, .null, .null, .null, .null, .int 0, .null, .null, .null, .null, .null, .int 0])), (q_1, .inl (C 0, 600, .inl (fun _ => 0)))] H := hP
  have hD : va_D A [(h0, .inr (3, [.ref q_1, .null, .null, .null, .null, .null, .null, .int 0, .null, .null, .null, .null, .null, .int 0])), (q_1, .inl (C 0, 600, .inl (fun _ => 0)))] := hD
  refine lv_aload_n hx hb dX3_init_13 rfl (lv_at hl 0 rfl) ?_
  refine lv_sipush (v := 600) hx hb dX3_init_14 (by decide) ?_
  refine va_newa (atype := .int) (ty := .int) (N' := 600) (a0 := (600, .inl (fun _ => 0))) hx hb (ht _ m_205) rfl hK hP hD hS hA (fun _ => rfl) (by decide) (by decide) (by decide) (by decide) (by decide) dX3_init_17 (fun q_2 cA H hK9 hP hD hS => ?_)
  obtain rfl := x_tyI hK9
  refine W.widen (k := 2) (n := 1200) (by decide) (by decide) ?_
  have hP : va_P D vwCl [(h0, .inr (3, [.ref q_1, .null, .null, .null, .null, .null, .null, .int 0, .null, .null, .null, .null, .null, .int 0])), (q_1, .inl (C 0, 600, .inl (fun _ => 0))), (q_2, .inl (C 0, 600, .inl (fun _ => 0)))] H := hP
  have hD : va_D A [(h0, .inr (3, [.ref q_1, .null, .null, .null, .null, .null, .null, .int 0, .null, .null, .null, .null, .null, .int 0])), (q_1, .inl (C 0, 600, .inl (fun _ => 0))), (q_2, .inl (C 0, 600, .inl (fun _ => 0)))] := hD
  refine va_putF (D := D) (ci := 3) (v := .ref q_2) (ty := tyX3 1) (C := RX3) (T := TX3) (N := 14) hx hb ht inX3 tyX3 tyX3_ok nmX3 hown hK hP hD hS 0 rfl rfl 1 (by decide) (ht _ m_242) (fun _ h9 => h9) rfl hin rfl (by decide +kernel) rfl rfl (Nat.le_of_ble_eq_true rfl) dX3_init_19 (fun H locs hP hD hS => ?_)
  have hP : va_P D vwCl [(h0, .inr (3, [.ref q_1, .ref q_2, .null, .null, .null, .null, .null, .int 0, .null, .null, .null, .null, .null, .int 0])), (q_1, .inl (C 0, 600, .inl (fun _ => 0))), (q_2, .inl (C 0, 600, .inl (fun _ => 0)))] H := hP
  have hD : va_D A [(h0, .inr (3, [.ref q_1, .ref q_2, .null, .null, .null, .null, .null, .int 0, .null, .null, .null, .null, .null, .int 0])), (q_1, .inl (C 0, 600, .inl (fun _ => 0))), (q_2, .inl (C 0, 600, .inl (fun _ => 0)))] := hD
  refine lv_aload_n hx hb dX3_init_22 rfl (lv_at hl 0 rfl) ?_
  refine lv_sipush (v := 600) hx hb dX3_init_23 (by decide) ?_
  refine va_newa (atype := .boolean) (ty := .boolean) (N' := 600) (a0 := (600, .inl (fun _ => 0))) hx hb (ht _ m_311) rfl hK hP hD hS hA (fun _ => rfl) (by decide) (by decide) (by decide) (by decide) (by decide) dX3_init_26 (fun q_3 cA H hK9 hP hD hS => ?_)
  obtain rfl := x_tyZ hK9
  refine W.widen (k := 3) (n := 1800) (by decide) (by decide) ?_
  have hP : va_P D vwCl [(h0, .inr (3, [.ref q_1, .ref q_2, .null, .null, .null, .null, .null, .int 0, .null, .null, .null, .null, .null, .int 0])), (q_1, .inl (C 0, 600, .inl (fun _ => 0))), (q_2, .inl (C 0, 600, .inl (fun _ => 0))), (q_3, .inl (C 1, 600, .inl (fun _ => 0)))] H := hP
  have hD : va_D A [(h0, .inr (3, [.ref q_1, .ref q_2, .null, .null, .null, .null, .null, .int 0, .null, .null, .null, .null, .null, .int 0])), (q_1, .inl (C 0, 600, .inl (fun _ => 0))), (q_2, .inl (C 0, 600, .inl (fun _ => 0))), (q_3, .inl (C 1, 600, .inl (fun _ => 0)))] := hD
  refine va_putF (D := D) (ci := 3) (v := .ref q_3) (ty := tyX3 2) (C := RX3) (T := TX3) (N := 14) hx hb ht inX3 tyX3 tyX3_ok nmX3 hown hK hP hD hS 0 rfl rfl 2 (by decide) (ht _ m_243) (fun _ h9 => h9) rfl hin rfl (by decide +kernel) rfl rfl (Nat.le_of_ble_eq_true rfl) dX3_init_28 (fun H locs hP hD hS => ?_)
  have hP : va_P D vwCl [(h0, .inr (3, [.ref q_1, .ref q_2, .ref q_3, .null, .null, .null, .null, .int 0, .null, .null, .null, .null, .null, .int 0])), (q_1, .inl (C 0, 600, .inl (fun _ => 0))), (q_2, .inl (C 0, 600, .inl (fun _ => 0))), (q_3, .inl (C 1, 600, .inl (fun _ => 0)))] H := hP
  have hD : va_D A [(h0, .inr (3, [.ref q_1, .ref q_2, .ref q_3, .null, .null, .null, .null, .int 0, .null, .null, .null, .null, .null, .int 0])), (q_1, .inl (C 0, 600, .inl (fun _ => 0))), (q_2, .inl (C 0, 600, .inl (fun _ => 0))), (q_3, .inl (C 1, 600, .inl (fun _ => 0)))] := hD
  refine lv_aload_n hx hb dX3_init_31 rfl (lv_at hl 0 rfl) ?_
  refine lv_sipush (v := 600) hx hb dX3_init_32 (by decide) ?_
  refine va_newa (atype := .int) (ty := .int) (N' := 600) (a0 := (600, .inl (fun _ => 0))) hx hb (ht _ m_205) rfl hK hP hD hS hA (fun _ => rfl) (by decide) (by decide) (by decide) (by decide) (by decide) dX3_init_35 (fun q_4 cA H hK9 hP hD hS => ?_)
  obtain rfl := x_tyI hK9
  refine W.widen (k := 4) (n := 2400) (by decide) (by decide) ?_
  have hP : va_P D vwCl [(h0, .inr (3, [.ref q_1, .ref q_2, .ref q_3, .null, .null, .null, .null, .int 0, .null, .null, .null, .null, .null, .int 0])), (q_1, .inl (C 0, 600, .inl (fun _ => 0))), (q_2, .inl (C 0, 600, .inl (fun _ => 0))), (q_3, .inl (C 1, 600, .inl (fun _ => 0))), (q_4, .inl (C 0, 600, .inl (fun _ => 0)))] H := hP
  have hD : va_D A [(h0, .inr (3, [.ref q_1, .ref q_2, .ref q_3, .null, .null, .null, .null, .int 0, .null, .null, .null, .null, .null, .int 0])), (q_1, .inl (C 0, 600, .inl (fun _ => 0))), (q_2, .inl (C 0, 600, .inl (fun _ => 0))), (q_3, .inl (C 1, 600, .inl (fun _ => 0))), (q_4, .inl (C 0, 600, .inl (fun _ => 0)))] := hD
  refine va_putF (D := D) (ci := 3) (v := .ref q_4) (ty := tyX3 3) (C := RX3) (T := TX3) (N := 14) hx hb ht inX3 tyX3 tyX3_ok nmX3 hown hK hP hD hS 0 rfl rfl 3 (by decide) (ht _ m_244) (fun _ h9 => h9) rfl hin rfl (by decide +kernel) rfl rfl (Nat.le_of_ble_eq_true rfl) dX3_init_37 (fun H locs hP hD hS => ?_)
  have hP : va_P D vwCl [(h0, .inr (3, [.ref q_1, .ref q_2, .ref q_3, .ref q_4, .null, .null, .null, .int 0, .null, .null, .null, .null, .null, .int 0])), (q_1, .inl (C 0, 600, .inl (fun _ => 0))), (q_2, .inl (C 0, 600, .inl (fun _ => 0))), (q_3, .inl (C 1, 600, .inl (fun _ => 0))), (q_4, .inl (C 0, 600, .inl (fun _ => 0)))] H := hP
  have hD : va_D A [(h0, .inr (3, [.ref q_1, .ref q_2, .ref q_3, .ref q_4, .null, .null, .null, .int 0, .null, .null, .null, .null, .null, .int 0])), (q_1, .inl (C 0, 600, .inl (fun _ => 0))), (q_2, .inl (C 0, 600, .inl (fun _ => 0))), (q_3, .inl (C 1, 600, .inl (fun _ => 0))), (q_4, .inl (C 0, 600, .inl (fun _ => 0)))] := hD
  refine lv_aload_n hx hb dX3_init_40 rfl (lv_at hl 0 rfl) ?_
  refine lv_sipush (v := 600) hx hb dX3_init_41 (by decide) ?_
  refine va_newa (atype := .int) (ty := .int) (N' := 600) (a0 := (600, .inl (fun _ => 0))) hx hb (ht _ m_205) rfl hK hP hD hS hA (fun _ => rfl) (by decide) (by decide) (by decide) (by decide) (by decide) dX3_init_44 (fun q_5 cA H hK9 hP hD hS => ?_)
  obtain rfl := x_tyI hK9
  refine W.widen (k := 5) (n := 3000) (by decide) (by decide) ?_
  have hP : va_P D vwCl [(h0, .inr (3, [.ref q_1, .ref q_2, .ref q_3, .ref q_4, .null, .null, .null, .int 0, .null, .null, .null, .null, .null, .int 0])), (q_1, .inl (C 0, 600, .inl (fun _ => 0))), (q_2, .inl (C 0, 600, .inl (fun _ => 0))), (q_3, .inl (C 1, 600, .inl (fun _ => 0))), (q_4, .inl (C 0, 600, .inl (fun _ => 0))), (q_5, .inl (C 0, 600, .inl (fun _ => 0)))] H := hP
  have hD : va_D A [(h0, .inr (3, [.ref q_1, .ref q_2, .ref q_3, .ref q_4, .null, .null, .null, .int 0, .null, .null, .null, .null, .null, .int 0])), (q_1, .inl (C 0, 600, .inl (fun _ => 0))), (q_2, .inl (C 0, 600, .inl (fun _ => 0))), (q_3, .inl (C 1, 600, .inl (fun _ => 0))), (q_4, .inl (C 0, 600, .inl (fun _ => 0))), (q_5, .inl (C 0, 600, .inl (fun _ => 0)))] := hD
  refine va_putF (D := D) (ci := 3) (v := .ref q_5) (ty := tyX3 4) (C := RX3) (T := TX3) (N := 14) hx hb ht inX3 tyX3 tyX3_ok nmX3 hown hK hP hD hS 0 rfl rfl 4 (by decide) (ht _ m_275) (fun _ h9 => h9) rfl hin rfl (by decide +kernel) rfl rfl (Nat.le_of_ble_eq_true rfl) dX3_init_46 (fun H locs hP hD hS => ?_)
  have hP : va_P D vwCl [(h0, .inr (3, [.ref q_1, .ref q_2, .ref q_3, .ref q_4, .ref q_5, .null, .null, .int 0, .null, .null, .null, .null, .null, .int 0])), (q_1, .inl (C 0, 600, .inl (fun _ => 0))), (q_2, .inl (C 0, 600, .inl (fun _ => 0))), (q_3, .inl (C 1, 600, .inl (fun _ => 0))), (q_4, .inl (C 0, 600, .inl (fun _ => 0))), (q_5, .inl (C 0, 600, .inl (fun _ => 0)))] H := hP
  have hD : va_D A [(h0, .inr (3, [.ref q_1, .ref q_2, .ref q_3, .ref q_4, .ref q_5, .null, .null, .int 0, .null, .null, .null, .null, .null, .int 0])), (q_1, .inl (C 0, 600, .inl (fun _ => 0))), (q_2, .inl (C 0, 600, .inl (fun _ => 0))), (q_3, .inl (C 1, 600, .inl (fun _ => 0))), (q_4, .inl (C 0, 600, .inl (fun _ => 0))), (q_5, .inl (C 0, 600, .inl (fun _ => 0)))] := hD
  refine lv_aload_n hx hb dX3_init_49 rfl (lv_at hl 0 rfl) ?_
  refine lv_sipush (v := 600) hx hb dX3_init_50 (by decide) ?_
  refine va_newa (atype := .int) (ty := .int) (N' := 600) (a0 := (600, .inl (fun _ => 0))) hx hb (ht _ m_205) rfl hK hP hD hS hA (fun _ => rfl) (by decide) (by decide) (by decide) (by decide) (by decide) dX3_init_53 (fun q_6 cA H hK9 hP hD hS => ?_)
  obtain rfl := x_tyI hK9
  refine W.widen (k := 6) (n := 3600) (by decide) (by decide) ?_
  have hP : va_P D vwCl [(h0, .inr (3, [.ref q_1, .ref q_2, .ref q_3, .ref q_4, .ref q_5, .null, .null, .int 0, .null, .null, .null, .null, .null, .int 0])), (q_1, .inl (C 0, 600, .inl (fun _ => 0))), (q_2, .inl (C 0, 600, .inl (fun _ => 0))), (q_3, .inl (C 1, 600, .inl (fun _ => 0))), (q_4, .inl (C 0, 600, .inl (fun _ => 0))), (q_5, .inl (C 0, 600, .inl (fun _ => 0))), (q_6, .inl (C 0, 600, .inl (fun _ => 0)))] H := hP
  have hD : va_D A [(h0, .inr (3, [.ref q_1, .ref q_2, .ref q_3, .ref q_4, .ref q_5, .null, .null, .int 0, .null, .null, .null, .null, .null, .int 0])), (q_1, .inl (C 0, 600, .inl (fun _ => 0))), (q_2, .inl (C 0, 600, .inl (fun _ => 0))), (q_3, .inl (C 1, 600, .inl (fun _ => 0))), (q_4, .inl (C 0, 600, .inl (fun _ => 0))), (q_5, .inl (C 0, 600, .inl (fun _ => 0))), (q_6, .inl (C 0, 600, .inl (fun _ => 0)))] := hD
  refine va_putF (D := D) (ci := 3) (v := .ref q_6) (ty := tyX3 5) (C := RX3) (T := TX3) (N := 14) hx hb ht inX3 tyX3 tyX3_ok nmX3 hown hK hP hD hS 0 rfl rfl 5 (by decide) (ht _ m_276) (fun _ h9 => h9) rfl hin rfl (by decide +kernel) rfl rfl (Nat.le_of_ble_eq_true rfl) dX3_init_55 (fun H locs hP hD hS => ?_)
  have hP : va_P D vwCl [(h0, .inr (3, [.ref q_1, .ref q_2, .ref q_3, .ref q_4, .ref q_5, .ref q_6, .null, .int 0, .null, .null, .null, .null, .null, .int 0])), (q_1, .inl (C 0, 600, .inl (fun _ => 0))), (q_2, .inl (C 0, 600, .inl (fun _ => 0))), (q_3, .inl (C 1, 600, .inl (fun _ => 0))), (q_4, .inl (C 0, 600, .inl (fun _ => 0))), (q_5, .inl (C 0, 600, .inl (fun _ => 0))), (q_6, .inl (C 0, 600, .inl (fun _ => 0)))] H := hP
  have hD : va_D A [(h0, .inr (3, [.ref q_1, .ref q_2, .ref q_3, .ref q_4, .ref q_5, .ref q_6, .null, .int 0, .null, .null, .null, .null, .null, .int 0])), (q_1, .inl (C 0, 600, .inl (fun _ => 0))), (q_2, .inl (C 0, 600, .inl (fun _ => 0))), (q_3, .inl (C 1, 600, .inl (fun _ => 0))), (q_4, .inl (C 0, 600, .inl (fun _ => 0))), (q_5, .inl (C 0, 600, .inl (fun _ => 0))), (q_6, .inl (C 0, 600, .inl (fun _ => 0)))] := hD
  refine lv_aload_n hx hb dX3_init_58 rfl (lv_at hl 0 rfl) ?_
  refine lv_sipush (v := 600) hx hb dX3_init_59 (by decide) ?_
  refine va_newa (atype := .int) (ty := .int) (N' := 600) (a0 := (600, .inl (fun _ => 0))) hx hb (ht _ m_205) rfl hK hP hD hS hA (fun _ => rfl) (by decide) (by decide) (by decide) (by decide) (by decide) dX3_init_62 (fun q_7 cA H hK9 hP hD hS => ?_)
  obtain rfl := x_tyI hK9
  refine W.widen (k := 7) (n := 4200) (by decide) (by decide) ?_
  have hP : va_P D vwCl [(h0, .inr (3, [.ref q_1, .ref q_2, .ref q_3, .ref q_4, .ref q_5, .ref q_6, .null, .int 0, .null, .null, .null, .null, .null, .int 0])), (q_1, .inl (C 0, 600, .inl (fun _ => 0))), (q_2, .inl (C 0, 600, .inl (fun _ => 0))), (q_3, .inl (C 1, 600, .inl (fun _ => 0))), (q_4, .inl (C 0, 600, .inl (fun _ => 0))), (q_5, .inl (C 0, 600, .inl (fun _ => 0))), (q_6, .inl (C 0, 600, .inl (fun _ => 0))), (q_7, .inl (C 0, 600, .inl (fun _ => 0)))] H := hP
  have hD : va_D A [(h0, .inr (3, [.ref q_1, .ref q_2, .ref q_3, .ref q_4, .ref q_5, .ref q_6, .null, .int 0, .null, .null, .null, .null, .null, .int 0])), (q_1, .inl (C 0, 600, .inl (fun _ => 0))), (q_2, .inl (C 0, 600, .inl (fun _ => 0))), (q_3, .inl (C 1, 600, .inl (fun _ => 0))), (q_4, .inl (C 0, 600, .inl (fun _ => 0))), (q_5, .inl (C 0, 600, .inl (fun _ => 0))), (q_6, .inl (C 0, 600, .inl (fun _ => 0))), (q_7, .inl (C 0, 600, .inl (fun _ => 0)))] := hD
  refine va_putF (D := D) (ci := 3) (v := .ref q_7) (ty := tyX3 6) (C := RX3) (T := TX3) (N := 14) hx hb ht inX3 tyX3 tyX3_ok nmX3 hown hK hP hD hS 0 rfl rfl 6 (by decide) (ht _ m_277) (fun _ h9 => h9) rfl hin rfl (by decide +kernel) rfl rfl (Nat.le_of_ble_eq_true rfl) dX3_init_64 (fun H locs hP hD hS => ?_)
  have hP : va_P D vwCl [(h0, .inr (3, [.ref q_1, .ref q_2, .ref q_3, .ref q_4, .ref q_5, .ref q_6, .ref q_7, .int 0, .null, .null, .null, .null, .null, .int 0])), (q_1, .inl (C 0, 600, .inl (fun _ => 0))), (q_2, .inl (C 0, 600, .inl (fun _ => 0))), (q_3, .inl (C 1, 600, .inl (fun _ => 0))), (q_4, .inl (C 0, 600, .inl (fun _ => 0))), (q_5, .inl (C 0, 600, .inl (fun _ => 0))), (q_6, .inl (C 0, 600, .inl (fun _ => 0))), (q_7, .inl (C 0, 600, .inl (fun _ => 0)))] H := hP
  have hD : va_D A [(h0, .inr (3, [.ref q_1, .ref q_2, .ref q_3, .ref q_4, .ref q_5, .ref q_6, .ref q_7, .int 0, .null, .null, .null, .null, .null, .int 0])), (q_1, .inl (C 0, 600, .inl (fun _ => 0))), (q_2, .inl (C 0, 600, .inl (fun _ => 0))), (q_3, .inl (C 1, 600, .inl (fun _ => 0))), (q_4, .inl (C 0, 600, .inl (fun _ => 0))), (q_5, .inl (C 0, 600, .inl (fun _ => 0))), (q_6, .inl (C 0, 600, .inl (fun _ => 0))), (q_7, .inl (C 0, 600, .inl (fun _ => 0)))] := hD
  refine lv_aload_n hx hb dX3_init_67 rfl (lv_at hl 0 rfl) ?_
  refine lv_sipush (v := 5999) hx hb dX3_init_68 (by decide) ?_
  refine va_newa (atype := .int) (ty := .int) (N' := 5999) (a0 := (5999, .inl (fun _ => 0))) hx hb (ht _ m_205) rfl hK hP hD hS hA (fun _ => rfl) (by decide) (by decide) (by decide) (by decide) (by decide) dX3_init_71 (fun q_8 cA H hK9 hP hD hS => ?_)
  obtain rfl := x_tyI hK9
  refine W.widen (k := 8) (n := 10199) (by decide) (by decide) ?_
  have hP : va_P D vwCl [(h0, .inr (3, [.ref q_1, .ref q_2, .ref q_3, .ref q_4, .ref q_5, .ref q_6, .ref q_7, .int 0, .null, .null, .null, .null, .null, .int 0])), (q_1, .inl (C 0, 600, .inl (fun _ => 0))), (q_2, .inl (C 0, 600, .inl (fun _ => 0))), (q_3, .inl (C 1, 600, .inl (fun _ => 0))), (q_4, .inl (C 0, 600, .inl (fun _ => 0))), (q_5, .inl (C 0, 600, .inl (fun _ => 0))), (q_6, .inl (C 0, 600, .inl (fun _ => 0))), (q_7, .inl (C 0, 600, .inl (fun _ => 0))), (q_8, .inl (C 0, 5999, .inl (fun _ => 0)))] H := hP
  have hD : va_D A [(h0, .inr (3, [.ref q_1, .ref q_2, .ref q_3, .ref q_4, .ref q_5, .ref q_6, .ref q_7, .int 0, .null, .null, .null, .null, .null, .int 0])), (q_1, .inl (C 0, 600, .inl (fun _ => 0))), (q_2, .inl (C 0, 600, .inl (fun _ => 0))), (q_3, .inl (C 1, 600, .inl (fun _ => 0))), (q_4, .inl (C 0, 600, .inl (fun _ => 0))), (q_5, .inl (C 0, 600, .inl (fun _ => 0))), (q_6, .inl (C 0, 600, .inl (fun _ => 0))), (q_7, .inl (C 0, 600, .inl (fun _ => 0))), (q_8, .inl (C 0, 5999, .inl (fun _ => 0)))] := hD
  refine va_putF (D := D) (ci := 3) (v := .ref q_8) (ty := tyX3 8) (C := RX3) (T := TX3) (N := 14) hx hb ht inX3 tyX3 tyX3_ok nmX3 hown hK hP hD hS 0 rfl rfl 8 (by decide) (ht _ m_253) (fun _ h9 => h9) rfl hin rfl (by decide +kernel) rfl rfl (Nat.le_of_ble_eq_true rfl) dX3_init_73 (fun H locs hP hD hS => ?_)
  have hP : va_P D vwCl [(h0, .inr (3, [.ref q_1, .ref q_2, .ref q_3, .ref q_4, .ref q_5, .ref q_6, .ref q_7, .int 0, .ref q_8, .null, .null, .null, .null, .int 0])), (q_1, .inl (C 0, 600, .inl (fun _ => 0))), (q_2, .inl (C 0, 600, .inl (fun _ => 0))), (q_3, .inl (C 1, 600, .inl (fun _ => 0))), (q_4, .inl (C 0, 600, .inl (fun _ => 0))), (q_5, .inl (C 0, 600, .inl (fun _ => 0))), (q_6, .inl (C 0, 600, .inl (fun _ => 0))), (q_7, .inl (C 0, 600, .inl (fun _ => 0))), (q_8, .inl (C 0, 5999, .inl (fun _ => 0)))] H := hP
  have hD : va_D A [(h0, .inr (3, [.ref q_1, .ref q_2, .ref q_3, .ref q_4, .ref q_5, .ref q_6, .ref q_7, .int 0, .ref q_8, .null, .null, .null, .null, .int 0])), (q_1, .inl (C 0, 600, .inl (fun _ => 0))), (q_2, .inl (C 0, 600, .inl (fun _ => 0))), (q_3, .inl (C 1, 600, .inl (fun _ => 0))), (q_4, .inl (C 0, 600, .inl (fun _ => 0))), (q_5, .inl (C 0, 600, .inl (fun _ => 0))), (q_6, .inl (C 0, 600, .inl (fun _ => 0))), (q_7, .inl (C 0, 600, .inl (fun _ => 0))), (q_8, .inl (C 0, 5999, .inl (fun _ => 0)))] := hD
  refine lv_aload_n hx hb dX3_init_76 rfl (lv_at hl 0 rfl) ?_
  refine lv_sipush (v := 5999) hx hb dX3_init_77 (by decide) ?_
  refine va_newa (atype := .int) (ty := .int) (N' := 5999) (a0 := (5999, .inl (fun _ => 0))) hx hb (ht _ m_205) rfl hK hP hD hS hA (fun _ => rfl) (by decide) (by decide) (by decide) (by decide) (by decide) dX3_init_80 (fun q_9 cA H hK9 hP hD hS => ?_)
  obtain rfl := x_tyI hK9
  refine W.widen (k := 9) (n := 16198) (by decide) (by decide) ?_
  have hP : va_P D vwCl [(h0, .inr (3, [.ref q_1, .ref q_2, .ref q_3, .ref q_4, .ref q_5, .ref q_6, .ref q_7, .int 0, .ref q_8, .null, .null, .null, .null, .int 0])), (q_1, .inl (C 0, 600, .inl (fun _ => 0))), (q_2, .inl (C 0, 600, .inl (fun _ => 0))), (q_3, .inl (C 1, 600, .inl (fun _ => 0))), (q_4, .inl (C 0, 600, .inl (fun _ => 0))), (q_5, .inl (C 0, 600, .inl (fun _ => 0))), (q_6, .inl (C 0, 600, .inl (fun _ => 0))), (q_7, .inl (C 0, 600, .inl (fun _ => 0))), (q_8, .inl (C 0, 5999, .inl (fun _ => 0))), (q_9, .inl (C 0, 5999, .inl (fun _ => 0)))] H := hP
  have hD : va_D A [(h0, .inr (3, [.ref q_1, .ref q_2, .ref q_3, .ref q_4, .ref q_5, .ref q_6, .ref q_7, .int 0, .ref q_8, .null, .null, .null, .null, .int 0])), (q_1, .inl (C 0, 600, .inl (fun _ => 0))), (q_2, .inl (C 0, 600, .inl (fun _ => 0))), (q_3, .inl (C 1, 600, .inl (fun _ => 0))), (q_4, .inl (C 0, 600, .inl (fun _ => 0))), (q_5, .inl (C 0, 600, .inl (fun _ => 0))), (q_6, .inl (C 0, 600, .inl (fun _ => 0))), (q_7, .inl (C 0, 600, .inl (fun _ => 0))), (q_8, .inl (C 0, 5999, .inl (fun _ => 0))), (q_9, .inl (C 0, 5999, .inl (fun _ => 0)))] := hD
  refine va_putF (D := D) (ci := 3) (v := .ref q_9) (ty := tyX3 9) (C := RX3) (T := TX3) (N := 14) hx hb ht inX3 tyX3 tyX3_ok nmX3 hown hK hP hD hS 0 rfl rfl 9 (by decide) (ht _ m_254) (fun _ h9 => h9) rfl hin rfl (by decide +kernel) rfl rfl (Nat.le_of_ble_eq_true rfl) dX3_init_82 (fun H locs hP hD hS => ?_)
  have hP : va_P D vwCl [(h0, .inr (3, [.ref q_1, .ref q_2, .ref q_3, .ref q_4, .ref q_5, .ref q_6, .ref q_7, .int 0, .ref q_8, .ref q_9, .null, .null, .null, .int 0])), (q_1, .inl (C 0, 600, .inl (fun _ => 0))), (q_2, .inl (C 0, 600, .inl (fun _ => 0))), (q_3, .inl (C 1, 600, .inl (fun _ => 0))), (q_4, .inl (C 0, 600, .inl (fun _ => 0))), (q_5, .inl (C 0, 600, .inl (fun _ => 0))), (q_6, .inl (C 0, 600, .inl (fun _ => 0))), (q_7, .inl (C 0, 600, .inl (fun _ => 0))), (q_8, .inl (C 0, 5999, .inl (fun _ => 0))), (q_9, .inl (C 0, 5999, .inl (fun _ => 0)))] H := hP
  have hD : va_D A [(h0, .inr (3, [.ref q_1, .ref q_2, .ref q_3, .ref q_4, .ref q_5, .ref q_6, .ref q_7, .int 0, .ref q_8, .ref q_9, .null, .null, .null, .int 0])), (q_1, .inl (C 0, 600, .inl (fun _ => 0))), (q_2, .inl (C 0, 600, .inl (fun _ => 0))), (q_3, .inl (C 1, 600, .inl (fun _ => 0))), (q_4, .inl (C 0, 600, .inl (fun _ => 0))), (q_5, .inl (C 0, 600, .inl (fun _ => 0))), (q_6, .inl (C 0, 600, .inl (fun _ => 0))), (q_7, .inl (C 0, 600, .inl (fun _ => 0))), (q_8, .inl (C 0, 5999, .inl (fun _ => 0))), (q_9, .inl (C 0, 5999, .inl (fun _ => 0)))] := hD
  refine lv_aload_n hx hb dX3_init_85 rfl (lv_at hl 0 rfl) ?_
  refine lv_sipush (v := 5999) hx hb dX3_init_86 (by decide) ?_
  refine va_newa (atype := .int) (ty := .int) (N' := 5999) (a0 := (5999, .inl (fun _ => 0))) hx hb (ht _ m_205) rfl hK hP hD hS hA (fun _ => rfl) (by decide) (by decide) (by decide) (by decide) (by decide) dX3_init_89 (fun q_10 cA H hK9 hP hD hS => ?_)
  obtain rfl := x_tyI hK9
  refine W.widen (k := 10) (n := 22197) (by decide) (by decide) ?_
  have hP : va_P D vwCl [(h0, .inr (3, [.ref q_1, .ref q_2, .ref q_3, .ref q_4, .ref q_5, .ref q_6, .ref q_7, .int 0, .ref q_8, .ref q_9, .null, .null, .null, .int 0])), (q_1, .inl (C 0, 600, .inl (fun _ => 0))), (q_2, .inl (C 0, 600, .inl (fun _ => 0))), (q_3, .inl (C 1, 600, .inl (fun _ => 0))), (q_4, .inl (C 0, 600, .inl (fun _ => 0))), (q_5, .inl (C 0, 600, .inl (fun _ => 0))), (q_6, .inl (C 0, 600, .inl (fun _ => 0))), (q_7, .inl (C 0, 600, .inl (fun _ => 0))), (q_8, .inl (C 0, 5999, .inl (fun _ => 0))), (q_9, .inl (C 0, 5999, .inl (fun _ => 0))), (q_10, .inl (C 0, 5999, .inl (fun _ => 0)))] H := hP
  have hD : va_D A [(h0, .inr (3, [.ref q_1, .ref q_2, .ref q_3, .ref q_4, .ref q_5, .ref q_6, .ref q_7, .int 0, .ref q_8, .ref q_9, .null, .null, .null, .int 0])), (q_1, .inl (C 0, 600, .inl (fun _ => 0))), (q_2, .inl (C 0, 600, .inl (fun _ => 0))), (q_3, .inl (C 1, 600, .inl (fun _ => 0))), (q_4, .inl (C 0, 600, .inl (fun _ => 0))), (q_5, .inl (C 0, 600, .inl (fun _ => 0))), (q_6, .inl (C 0, 600, .inl (fun _ => 0))), (q_7, .inl (C 0, 600, .inl (fun _ => 0))), (q_8, .inl (C 0, 5999, .inl (fun _ => 0))), (q_9, .inl (C 0, 5999, .inl (fun _ => 0))), (q_10, .inl (C 0, 5999, .inl (fun _ => 0)))] := hD
  refine va_putF (D := D) (ci := 3) (v := .ref q_10) (ty := tyX3 10) (C := RX3) (T := TX3) (N := 14) hx hb ht inX3 tyX3 tyX3_ok nmX3 hown hK hP hD hS 0 rfl rfl 10 (by decide) (ht _ m_255) (fun _ h9 => h9) rfl hin rfl (by decide +kernel) rfl rfl (Nat.le_of_ble_eq_true rfl) dX3_init_91 (fun H locs hP hD hS => ?_)
  have hP : va_P D vwCl [(h0, .inr (3, [.ref q_1, .ref q_2, .ref q_3, .ref q_4, .ref q_5, .ref q_6, .ref q_7, .int 0, .ref q_8, .ref q_9, .ref q_10, .null, .null, .int 0])), (q_1, .inl (C 0, 600, .inl (fun _ => 0))), (q_2, .inl (C 0, 600, .inl (fun _ => 0))), (q_3, .inl (C 1, 600, .inl (fun _ => 0))), (q_4, .inl (C 0, 600, .inl (fun _ => 0))), (q_5, .inl (C 0, 600, .inl (fun _ => 0))), (q_6, .inl (C 0, 600, .inl (fun _ => 0))), (q_7, .inl (C 0, 600, .inl (fun _ => 0))), (q_8, .inl (C 0, 5999, .inl (fun _ => 0))), (q_9, .inl (C 0, 5999, .inl (fun _ => 0))), (q_10, .inl (C 0, 5999, .inl (fun _ => 0)))] H := hP
  have hD : va_D A [(h0, .inr (3, [.ref q_1, .ref q_2, .ref q_3, .ref q_4, .ref q_5, .ref q_6, .ref q_7, .int 0, .ref q_8, .ref q_9, .ref q_10, .null, .null, .int 0])), (q_1, .inl (C 0, 600, .inl (fun _ => 0))), (q_2, .inl (C 0, 600, .inl (fun _ => 0))), (q_3, .inl (C 1, 600, .inl (fun _ => 0))), (q_4, .inl (C 0, 600, .inl (fun _ => 0))), (q_5, .inl (C 0, 600, .inl (fun _ => 0))), (q_6, .inl (C 0, 600, .inl (fun _ => 0))), (q_7, .inl (C 0, 600, .inl (fun _ => 0))), (q_8, .inl (C 0, 5999, .inl (fun _ => 0))), (q_9, .inl (C 0, 5999, .inl (fun _ => 0))), (q_10, .inl (C 0, 5999, .inl (fun _ => 0)))] := hD
  refine lv_aload_n hx hb dX3_init_94 rfl (lv_at hl 0 rfl) ?_
  refine lv_sipush (v := 5999) hx hb dX3_init_95 (by decide) ?_
  refine va_newa (atype := .int) (ty := .int) (N' := 5999) (a0 := (5999, .inl (fun _ => 0))) hx hb (ht _ m_205) rfl hK hP hD hS hA (fun _ => rfl) (by decide) (by decide) (by decide) (by decide) (by decide) dX3_init_98 (fun q_11 cA H hK9 hP hD hS => ?_)
  obtain rfl := x_tyI hK9
  refine W.widen (k := 11) (n := 28196) (by decide) (by decide) ?_
  have hP : va_P D vwCl [(h0, .inr (3, [.ref q_1, .ref q_2, .ref q_3, .ref q_4, .ref q_5, .ref q_6, .ref q_7, .int 0, .ref q_8, .ref q_9, .ref q_10, .null, .null, .int 0])), (q_1, .inl (C 0, 600, .inl (fun _ => 0))), (q_2, .inl (C 0, 600, .inl (fun _ => 0))), (q_3, .inl (C 1, 600, .inl (fun _ => 0))), (q_4, .inl (C 0, 600, .inl (fun _ => 0))), (q_5, .inl (C 0, 600, .inl (fun _ => 0))), (q_6, .inl (C 0, 600, .inl (fun _ => 0))), (q_7, .inl (C 0, 600, .inl (fun _ => 0))), (q_8, .inl (C 0, 5999, .inl (fun _ => 0))), (q_9, .inl (C 0, 5999, .inl (fun _ => 0))), (q_10, .inl (C 0, 5999, .inl (fun _ => 0))), (q_11, .inl (C 0, 5999, .inl (fun _ => 0)))] H := hP
  have hD : va_D A [(h0, .inr (3, [.ref q_1, .ref q_2, .ref q_3, .ref q_4, .ref q_5, .ref q_6, .ref q_7, .int 0, .ref q_8, .ref q_9, .ref q_10, .null, .null, .int 0])), (q_1, .inl (C 0, 600, .inl (fun _ => 0))), (q_2, .inl (C 0, 600, .inl (fun _ => 0))), (q_3, .inl (C 1, 600, .inl (fun _ => 0))), (q_4, .inl (C 0, 600, .inl (fun _ => 0))), (q_5, .inl (C 0, 600, .inl (fun _ => 0))), (q_6, .inl (C 0, 600, .inl (fun _ => 0))), (q_7, .inl (C 0, 600, .inl (fun _ => 0))), (q_8, .inl (C 0, 5999, .inl (fun _ => 0))), (q_9, .inl (C 0, 5999, .inl (fun _ => 0))), (q_10, .inl (C 0, 5999, .inl (fun _ => 0))), (q_11, .inl (C 0, 5999, .inl (fun _ => 0)))] := hD
  refine va_putF (D := D) (ci := 3) (v := .ref q_11) (ty := tyX3 11) (C := RX3) (T := TX3) (N := 14) hx hb ht inX3 tyX3 tyX3_ok nmX3 hown hK hP hD hS 0 rfl rfl 11 (by decide) (ht _ m_256) (fun _ h9 => h9) rfl hin rfl (by decide +kernel) rfl rfl (Nat.le_of_ble_eq_true rfl) dX3_init_100 (fun H locs hP hD hS => ?_)
  have hP : va_P D vwCl [(h0, .inr (3, [.ref q_1, .ref q_2, .ref q_3, .ref q_4, .ref q_5, .ref q_6, .ref q_7, .int 0, .ref q_8, .ref q_9, .ref q_10, .ref q_11, .null, .int 0])), (q_1, .inl (C 0, 600, .inl (fun _ => 0))), (q_2, .inl (C 0, 600, .inl (fun _ => 0))), (q_3, .inl (C 1, 600, .inl (fun _ => 0))), (q_4, .inl (C 0, 600, .inl (fun _ => 0))), (q_5, .inl (C 0, 600, .inl (fun _ => 0))), (q_6, .inl (C 0, 600, .inl (fun _ => 0))), (q_7, .inl (C 0, 600, .inl (fun _ => 0))), (q_8, .inl (C 0, 5999, .inl (fun _ => 0))), (q_9, .inl (C 0, 5999, .inl (fun _ => 0))), (q_10, .inl (C 0, 5999, .inl (fun _ => 0))), (q_11, .inl (C 0, 5999, .inl (fun _ => 0)))] H := hP
  have hD : va_D A [(h0, .inr (3, [.ref q_1, .ref q_2, .ref q_3, .ref q_4, .ref q_5, .ref q_6, .ref q_7, .int 0, .ref q_8, .ref q_9, .ref q_10, .ref q_11, .null, .int 0])), (q_1, .inl (C 0, 600, .inl (fun _ => 0))), (q_2, .inl (C 0, 600, .inl (fun _ => 0))), (q_3, .inl (C 1, 600, .inl (fun _ => 0))), (q_4, .inl (C 0, 600, .inl (fun _ => 0))), (q_5, .inl (C 0, 600, .inl (fun _ => 0))), (q_6, .inl (C 0, 600, .inl (fun _ => 0))), (q_7, .inl (C 0, 600, .inl (fun _ => 0))), (q_8, .inl (C 0, 5999, .inl (fun _ => 0))), (q_9, .inl (C 0, 5999, .inl (fun _ => 0))), (q_10, .inl (C 0, 5999, .inl (fun _ => 0))), (q_11, .inl (C 0, 5999, .inl (fun _ => 0)))] := hD
  refine lv_aload_n hx hb dX3_init_103 rfl (lv_at hl 0 rfl) ?_
  refine lv_sipush (v := 5999) hx hb dX3_init_104 (by decide) ?_
  refine va_newa (atype := .int) (ty := .int) (N' := 5999) (a0 := (5999, .inl (fun _ => 0))) hx hb (ht _ m_205) rfl hK hP hD hS hA (fun _ => rfl) (by decide) (by decide) (by decide) (by decide) (by decide) dX3_init_107 (fun q_12 cA H hK9 hP hD hS => ?_)
  obtain rfl := x_tyI hK9
  refine W.widen (k := 12) (n := 34195) (by decide) (by decide) ?_
  have hP : va_P D vwCl [(h0, .inr (3, [.ref q_1, .ref q_2, .ref q_3, .ref q_4, .ref q_5, .ref q_6, .ref q_7, .int 0, .ref q_8, .ref q_9, .ref q_10, .ref q_11, .null, .int 0])), (q_1, .inl (C 0, 600, .inl (fun _ => 0))), (q_2, .inl (C 0, 600, .inl (fun _ => 0))), (q_3, .inl (C 1, 600, .inl (fun _ => 0))), (q_4, .inl (C 0, 600, .inl (fun _ => 0))), (q_5, .inl (C 0, 600, .inl (fun _ => 0))), (q_6, .inl (C 0, 600, .inl (fun _ => 0))), (q_7, .inl (C 0, 600, .inl (fun _ => 0))), (q_8, .inl (C 0, 5999, .inl (fun _ => 0))), (q_9, .inl (C 0, 5999, .inl (fun _ => 0))), (q_10, .inl (C 0, 5999, .inl (fun _ => 0))), (q_11, .inl (C 0, 5999, .inl (fun _ => 0))), (q_12, .inl (C 0, 5999, .inl (fun _ => 0)))] H := hP
  have hD : va_D A [(h0, .inr (3, [.ref q_1, .ref q_2, .ref q_3, .ref q_4, .ref q_5, .ref q_6, .ref q_7, .int 0, .ref q_8, .ref q_9, .ref q_10, .ref q_11, .null, .int 0])), (q_1, .inl (C 0, 600, .inl (fun _ => 0))), (q_2, .inl (C 0, 600, .inl (fun _ => 0))), (q_3, .inl (C 1, 600, .inl (fun _ => 0))), (q_4, .inl (C 0, 600, .inl (fun _ => 0))), (q_5, .inl (C 0, 600, .inl (fun _ => 0))), (q_6, .inl (C 0, 600, .inl (fun _ => 0))), (q_7, .inl (C 0, 600, .inl (fun _ => 0))), (q_8, .inl (C 0, 5999, .inl (fun _ => 0))), (q_9, .inl (C 0, 5999, .inl (fun _ => 0))), (q_10, .inl (C 0, 5999, .inl (fun _ => 0))), (q_11, .inl (C 0, 5999, .inl (fun _ => 0))), (q_12, .inl (C 0, 5999, .inl (fun _ => 0)))] := hD
  refine va_putF (D := D) (ci := 3) (v := .ref q_12) (ty := tyX3 12) (C := RX3) (T := TX3) (N := 14) hx hb ht inX3 tyX3 tyX3_ok nmX3 hown hK hP hD hS 0 rfl rfl 12 (by decide) (ht _ m_252) (fun _ h9 => h9) rfl hin rfl (by decide +kernel) rfl rfl (Nat.le_of_ble_eq_true rfl) dX3_init_109 (fun H locs hP hD hS => ?_)
  have hP : va_P D vwCl [(h0, .inr (3, [.ref q_1, .ref q_2, .ref q_3, .ref q_4, .ref q_5, .ref q_6, .ref q_7, .int 0, .ref q_8, .ref q_9, .ref q_10, .ref q_11, .ref q_12, .int 0])), (q_1, .inl (C 0, 600, .inl (fun _ => 0))), (q_2, .inl (C 0, 600, .inl (fun _ => 0))), (q_3, .inl (C 1, 600, .inl (fun _ => 0))), (q_4, .inl (C 0, 600, .inl (fun _ => 0))), (q_5, .inl (C 0, 600, .inl (fun _ => 0))), (q_6, .inl (C 0, 600, .inl (fun _ => 0))), (q_7, .inl (C 0, 600, .inl (fun _ => 0))), (q_8, .inl (C 0, 5999, .inl (fun _ => 0))), (q_9, .inl (C 0, 5999, .inl (fun _ => 0))), (q_10, .inl (C 0, 5999, .inl (fun _ => 0))), (q_11, .inl (C 0, 5999, .inl (fun _ => 0))), (q_12, .inl (C 0, 5999, .inl (fun _ => 0)))] H := hP
  have hD : va_D A [(h0, .inr (3, [.ref q_1, .ref q_2, .ref q_3, .ref q_4, .ref q_5, .ref q_6, .ref q_7, .int 0, .ref q_8, .ref q_9, .ref q_10, .ref q_11, .ref q_12, .int 0])), (q_1, .inl (C 0, 600, .inl (fun _ => 0))), (q_2, .inl (C 0, 600, .inl (fun _ => 0))), (q_3, .inl (C 1, 600, .inl (fun _ => 0))), (q_4, .inl (C 0, 600, .inl (fun _ => 0))), (q_5, .inl (C 0, 600, .inl (fun _ => 0))), (q_6, .inl (C 0, 600, .inl (fun _ => 0))), (q_7, .inl (C 0, 600, .inl (fun _ => 0))), (q_8, .inl (C 0, 5999, .inl (fun _ => 0))), (q_9, .inl (C 0, 5999, .inl (fun _ => 0))), (q_10, .inl (C 0, 5999, .inl (fun _ => 0))), (q_11, .inl (C 0, 5999, .inl (fun _ => 0))), (q_12, .inl (C 0, 5999, .inl (fun _ => 0)))] := hD
  refine lv_iconst (v := 0) hx hb dX3_init_112 (by decide) ?_
  refine lv_istore_n (lv' := [(1, .int 0), (0, .ref h0)]) hx hb dX3_init_113 rfl hl (by decide) rfl (fun ls hl => ?_)
  refine x_iter 5999 (fun i => 12) (fun i => 34195) (fun i H locs ls => ∃ f : Nat → Int32, va_P D vwCl [(h0, .inr (3, [.ref q_1, .ref q_2, .ref q_3, .ref q_4, .ref q_5, .ref q_6, .ref q_7, .int 0, .ref q_8, .ref q_9, .ref q_10, .ref q_11, .ref q_12, .int 0])), (q_1, .inl (C 0, 600, .inl (fun _ => 0))), (q_2, .inl (C 0, 600, .inl (fun _ => 0))), (q_3, .inl (C 1, 600, .inl (fun _ => 0))), (q_4, .inl (C 0, 600, .inl (fun _ => 0))), (q_5, .inl (C 0, 600, .inl (fun _ => 0))), (q_6, .inl (C 0, 600, .inl (fun _ => 0))), (q_7, .inl (C 0, 600, .inl (fun _ => 0))), (q_8, .inl (C 0, 5999, .inl (fun _ => 0))), (q_9, .inl (C 0, 5999, .inl (fun _ => 0))), (q_10, .inl (C 0, 5999, .inl (fun _ => 0))), (q_11, .inl (C 0, 5999, .inl (fun _ => 0))), (q_12, .inl (C 0, 5999, .inl f))] H ∧ va_D A [(h0, .inr (3, [.ref q_1, .ref q_2, .ref q_3, .ref q_4, .ref q_5, .ref q_6, .ref q_7, .int 0, .ref q_8, .ref q_9, .ref q_10, .ref q_11, .ref q_12, .int 0])), (q_1, .inl (C 0, 600, .inl (fun _ => 0))), (q_2, .inl (C 0, 600, .inl (fun _ => 0))), (q_3, .inl (C 1, 600, .inl (fun _ => 0))), (q_4, .inl (C 0, 600, .inl (fun _ => 0))), (q_5, .inl (C 0, 600, .inl (fun _ => 0))), (q_6, .inl (C 0, 600, .inl (fun _ => 0))), (q_7, .inl (C 0, 600, .inl (fun _ => 0))), (q_8, .inl (C 0, 5999, .inl (fun _ => 0))), (q_9, .inl (C 0, 5999, .inl (fun _ => 0))), (q_10, .inl (C 0, 5999, .inl (fun _ => 0))), (q_11, .inl (C 0, 5999, .inl (fun _ => 0))), (q_12, .inl (C 0, 5999, .inl f))] ∧ va_S A s.heap H locs ∧ lv_has ls 2 [(1, .int (nI i)), (0, .ref h0)]) (fun i H locs ls hi hI ih => ?_) (fun H locs ls hI => ?_) ?_
  · skip
    obtain ⟨f, hP, hD, hS, hl⟩ := hI
    show W p l e _ s m _ below meth c H locs 12 34195 _ _
    refine lv_iload_n hx hb dX3_init_114 rfl (lv_at hl 0 rfl) ?_
    refine lv_aload_n hx hb dX3_init_115 rfl (lv_at hl 1 rfl) ?_
    refine va_get (D := D) (ci := 3) (v := .ref q_12) (C := RX3) (T := TX3) (N := 14) hx hb ht inX3 hown hK hP 0 rfl rfl 12 (by decide) (ht _ m_252) (fun _ h9 => h9) rfl dX3_init_116 ?_
    refine va_alen (v := 5999) hx hb hK hP 12 0 rfl rfl (show Int32.ofNat 5999 = 5999 by decide) dX3_init_119 ?_
    refine lv_icmp_ge (tgt := 153) hx hb dX3_init_120 (by decide) (fun c_120 => ?_) (fun c_120 => ?_)
    · exact absurd c_120 (x_lt5999 hi)
    · skip
      refine lv_aload_n hx hb dX3_init_123 rfl (lv_at hl 1 rfl) ?_
      refine va_get (D := D) (ci := 3) (v := .ref q_12) (C := RX3) (T := TX3) (N := 14) hx hb ht inX3 hown hK hP 0 rfl rfl 12 (by decide) (ht _ m_252) (fun _ h9 => h9) rfl dX3_init_124 ?_
      refine lv_iload_n hx hb dX3_init_127 rfl (lv_at hl 0 rfl) ?_
      refine lv_iload_n hx hb dX3_init_128 rfl (lv_at hl 0 rfl) ?_
      refine lv_iconst (v := 1) hx hb dX3_init_129 (by decide) ?_
      refine lv_iadd hx hb dX3_init_130 ?_
      refine lv_topi (fun x_13 ex_13 => ?_)
      refine lv_aload_n hx hb dX3_init_131 rfl (lv_at hl 1 rfl) ?_
      refine va_get (D := D) (ci := 3) (v := .ref q_12) (C := RX3) (T := TX3) (N := 14) hx hb ht inX3 hown hK hP 0 rfl rfl 12 (by decide) (ht _ m_252) (fun _ h9 => h9) rfl dX3_init_132 ?_
      refine va_alen (v := 5999) hx hb hK hP 12 0 rfl rfl (show Int32.ofNat 5999 = 5999 by decide) dX3_init_135 ?_
      refine lv_icmp_ge (tgt := 145) hx hb dX3_init_136 (by decide) (fun c_136 => ?_) (fun c_136 => ?_)
      · skip
        refine lv_iconst (v := (-1)) hx hb dX3_init_145 (by decide) ?_
        refine va_iast hx hb hK hP hD hS 12 0 rfl rfl (vp_in_nI hi (by decide)) dX3_init_146 (fun H locs hP hD hS => ?_)
        have hP : va_P D vwCl [(h0, .inr (3, [.ref q_1, .ref q_2, .ref q_3, .ref q_4, .ref q_5, .ref q_6, .ref q_7, .int 0, .ref q_8, .ref q_9, .ref q_10, .ref q_11, .ref q_12, .int 0])), (q_1, .inl (C 0, 600, .inl (fun _ => 0))), (q_2, .inl (C 0, 600, .inl (fun _ => 0))), (q_3, .inl (C 1, 600, .inl (fun _ => 0))), (q_4, .inl (C 0, 600, .inl (fun _ => 0))), (q_5, .inl (C 0, 600, .inl (fun _ => 0))), (q_6, .inl (C 0, 600, .inl (fun _ => 0))), (q_7, .inl (C 0, 600, .inl (fun _ => 0))), (q_8, .inl (C 0, 5999, .inl (fun _ => 0))), (q_9, .inl (C 0, 5999, .inl (fun _ => 0))), (q_10, .inl (C 0, 5999, .inl (fun _ => 0))), (q_11, .inl (C 0, 5999, .inl (fun _ => 0))), (q_12, .inl (C 0, 5999, .inl ((upd f (Int32.toNatClampNeg (nI i)) (-1)))))] H := hP
        have hD : va_D A [(h0, .inr (3, [.ref q_1, .ref q_2, .ref q_3, .ref q_4, .ref q_5, .ref q_6, .ref q_7, .int 0, .ref q_8, .ref q_9, .ref q_10, .ref q_11, .ref q_12, .int 0])), (q_1, .inl (C 0, 600, .inl (fun _ => 0))), (q_2, .inl (C 0, 600, .inl (fun _ => 0))), (q_3, .inl (C 1, 600, .inl (fun _ => 0))), (q_4, .inl (C 0, 600, .inl (fun _ => 0))), (q_5, .inl (C 0, 600, .inl (fun _ => 0))), (q_6, .inl (C 0, 600, .inl (fun _ => 0))), (q_7, .inl (C 0, 600, .inl (fun _ => 0))), (q_8, .inl (C 0, 5999, .inl (fun _ => 0))), (q_9, .inl (C 0, 5999, .inl (fun _ => 0))), (q_10, .inl (C 0, 5999, .inl (fun _ => 0))), (q_11, .inl (C 0, 5999, .inl (fun _ => 0))), (q_12, .inl (C 0, 5999, .inl ((upd f (Int32.toNatClampNeg (nI i)) (-1)))))] := hD
        obtain ⟨x_14, ex_14⟩ : ∃ y : Int32, y = (nI i) + 1 := ⟨_, rfl⟩
        refine lv_iinc (v := x_14) (lv' := [(1, .int x_14), (0, .ref h0)]) hx hb dX3_init_147 hl (k := 0) rfl (by rw [ex_14]; rfl) (by decide) rfl (fun ls hl => ?_)
        refine lv_goto (tgt := 114) hx hb dX3_init_150 (by decide) ?_
        obtain rfl : x_14 = nI (i + 1) := ex_14.trans (nI_1 i)
        exact ih _ _ _ ⟨_, hP.sub (ws' := [(h0, .inr (3, [.ref q_1, .ref q_2, .ref q_3, .ref q_4, .ref q_5, .ref q_6, .ref q_7, .int 0, .ref q_8, .ref q_9, .ref q_10, .ref q_11, .ref q_12, .int 0])), (q_1, .inl (C 0, 600, .inl (fun _ => 0))), (q_2, .inl (C 0, 600, .inl (fun _ => 0))), (q_3, .inl (C 1, 600, .inl (fun _ => 0))), (q_4, .inl (C 0, 600, .inl (fun _ => 0))), (q_5, .inl (C 0, 600, .inl (fun _ => 0))), (q_6, .inl (C 0, 600, .inl (fun _ => 0))), (q_7, .inl (C 0, 600, .inl (fun _ => 0))), (q_8, .inl (C 0, 5999, .inl (fun _ => 0))), (q_9, .inl (C 0, 5999, .inl (fun _ => 0))), (q_10, .inl (C 0, 5999, .inl (fun _ => 0))), (q_11, .inl (C 0, 5999, .inl (fun _ => 0))), (q_12, .inl (C 0, 5999, .inl ((upd f (Int32.toNatClampNeg (nI i)) (-1)))))]) [0, 1, 2, 3, 4, 5, 6, 7, 8, 9, 10, 11, 12] rfl, hD.sub (ws' := [(h0, .inr (3, [.ref q_1, .ref q_2, .ref q_3, .ref q_4, .ref q_5, .ref q_6, .ref q_7, .int 0, .ref q_8, .ref q_9, .ref q_10, .ref q_11, .ref q_12, .int 0])), (q_1, .inl (C 0, 600, .inl (fun _ => 0))), (q_2, .inl (C 0, 600, .inl (fun _ => 0))), (q_3, .inl (C 1, 600, .inl (fun _ => 0))), (q_4, .inl (C 0, 600, .inl (fun _ => 0))), (q_5, .inl (C 0, 600, .inl (fun _ => 0))), (q_6, .inl (C 0, 600, .inl (fun _ => 0))), (q_7, .inl (C 0, 600, .inl (fun _ => 0))), (q_8, .inl (C 0, 5999, .inl (fun _ => 0))), (q_9, .inl (C 0, 5999, .inl (fun _ => 0))), (q_10, .inl (C 0, 5999, .inl (fun _ => 0))), (q_11, .inl (C 0, 5999, .inl (fun _ => 0))), (q_12, .inl (C 0, 5999, .inl ((upd f (Int32.toNatClampNeg (nI i)) (-1)))))]) [0, 1, 2, 3, 4, 5, 6, 7, 8, 9, 10, 11, 12] (by decide) rfl, hS, hl⟩
      · skip
        refine lv_iload_n hx hb dX3_init_139 rfl (lv_at hl 0 rfl) ?_
        refine lv_iconst (v := 1) hx hb dX3_init_140 (by decide) ?_
        refine lv_iadd hx hb dX3_init_141 ?_
        refine lv_topi (fun x_15 ex_15 => ?_)
        refine lv_goto (tgt := 146) hx hb dX3_init_142 (by decide) ?_
        refine va_iast hx hb hK hP hD hS 12 0 rfl rfl (vp_in_nI hi (by decide)) dX3_init_146 (fun H locs hP hD hS => ?_)
        have hP : va_P D vwCl [(h0, .inr (3, [.ref q_1, .ref q_2, .ref q_3, .ref q_4, .ref q_5, .ref q_6, .ref q_7, .int 0, .ref q_8, .ref q_9, .ref q_10, .ref q_11, .ref q_12, .int 0])), (q_1, .inl (C 0, 600, .inl (fun _ => 0))), (q_2, .inl (C 0, 600, .inl (fun _ => 0))), (q_3, .inl (C 1, 600, .inl (fun _ => 0))), (q_4, .inl (C 0, 600, .inl (fun _ => 0))), (q_5, .inl (C 0, 600, .inl (fun _ => 0))), (q_6, .inl (C 0, 600, .inl (fun _ => 0))), (q_7, .inl (C 0, 600, .inl (fun _ => 0))), (q_8, .inl (C 0, 5999, .inl (fun _ => 0))), (q_9, .inl (C 0, 5999, .inl (fun _ => 0))), (q_10, .inl (C 0, 5999, .inl (fun _ => 0))), (q_11, .inl (C 0, 5999, .inl (fun _ => 0))), (q_12, .inl (C 0, 5999, .inl ((upd f (Int32.toNatClampNeg (nI i)) x_15))))] H := hP
        have hD : va_D A [(h0, .inr (3, [.ref q_1, .ref q_2, .ref q_3, .ref q_4, .ref q_5, .ref q_6, .ref q_7, .int 0, .ref q_8, .ref q_9, .ref q_10, .ref q_11, .ref q_12, .int 0])), (q_1, .inl (C 0, 600, .inl (fun _ => 0))), (q_2, .inl (C 0, 600, .inl (fun _ => 0))), (q_3, .inl (C 1, 600, .inl (fun _ => 0))), (q_4, .inl (C 0, 600, .inl (fun _ => 0))), (q_5, .inl (C 0, 600, .inl (fun _ => 0))), (q_6, .inl (C 0, 600, .inl (fun _ => 0))), (q_7, .inl (C 0, 600, .inl (fun _ => 0))), (q_8, .inl (C 0, 5999, .inl (fun _ => 0))), (q_9, .inl (C 0, 5999, .inl (fun _ => 0))), (q_10, .inl (C 0, 5999, .inl (fun _ => 0))), (q_11, .inl (C 0, 5999, .inl (fun _ => 0))), (q_12, .inl (C 0, 5999, .inl ((upd f (Int32.toNatClampNeg (nI i)) x_15))))] := hD
        obtain ⟨x_16, ex_16⟩ : ∃ y : Int32, y = (nI i) + 1 := ⟨_, rfl⟩
        refine lv_iinc (v := x_16) (lv' := [(1, .int x_16), (0, .ref h0)]) hx hb dX3_init_147 hl (k := 0) rfl (by rw [ex_16]; rfl) (by decide) rfl (fun ls hl => ?_)
        refine lv_goto (tgt := 114) hx hb dX3_init_150 (by decide) ?_
        obtain rfl : x_16 = nI (i + 1) := ex_16.trans (nI_1 i)
        exact ih _ _ _ ⟨_, hP.sub (ws' := [(h0, .inr (3, [.ref q_1, .ref q_2, .ref q_3, .ref q_4, .ref q_5, .ref q_6, .ref q_7, .int 0, .ref q_8, .ref q_9, .ref q_10, .ref q_11, .ref q_12, .int 0])), (q_1, .inl (C 0, 600, .inl (fun _ => 0))), (q_2, .inl (C 0, 600, .inl (fun _ => 0))), (q_3, .inl (C 1, 600, .inl (fun _ => 0))), (q_4, .inl (C 0, 600, .inl (fun _ => 0))), (q_5, .inl (C 0, 600, .inl (fun _ => 0))), (q_6, .inl (C 0, 600, .inl (fun _ => 0))), (q_7, .inl (C 0, 600, .inl (fun _ => 0))), (q_8, .inl (C 0, 5999, .inl (fun _ => 0))), (q_9, .inl (C 0, 5999, .inl (fun _ => 0))), (q_10, .inl (C 0, 5999, .inl (fun _ => 0))), (q_11, .inl (C 0, 5999, .inl (fun _ => 0))), (q_12, .inl (C 0, 5999, .inl ((upd f (Int32.toNatClampNeg (nI i)) x_15))))]) [0, 1, 2, 3, 4, 5, 6, 7, 8, 9, 10, 11, 12] rfl, hD.sub (ws' := [(h0, .inr (3, [.ref q_1, .ref q_2, .ref q_3, .ref q_4, .ref q_5, .ref q_6, .ref q_7, .int 0, .ref q_8, .ref q_9, .ref q_10, .ref q_11, .ref q_12, .int 0])), (q_1, .inl (C 0, 600, .inl (fun _ => 0))), (q_2, .inl (C 0, 600, .inl (fun _ => 0))), (q_3, .inl (C 1, 600, .inl (fun _ => 0))), (q_4, .inl (C 0, 600, .inl (fun _ => 0))), (q_5, .inl (C 0, 600, .inl (fun _ => 0))), (q_6, .inl (C 0, 600, .inl (fun _ => 0))), (q_7, .inl (C 0, 600, .inl (fun _ => 0))), (q_8, .inl (C 0, 5999, .inl (fun _ => 0))), (q_9, .inl (C 0, 5999, .inl (fun _ => 0))), (q_10, .inl (C 0, 5999, .inl (fun _ => 0))), (q_11, .inl (C 0, 5999, .inl (fun _ => 0))), (q_12, .inl (C 0, 5999, .inl ((upd f (Int32.toNatClampNeg (nI i)) x_15))))]) [0, 1, 2, 3, 4, 5, 6, 7, 8, 9, 10, 11, 12] (by decide) rfl, hS, hl⟩
  · skip
    obtain ⟨f, hP, hD, hS, hl⟩ := hI
    refine W.widen (k := 12) (n := 34195) (by decide) (by decide) ?_
    refine lv_iload_n hx hb dX3_init_114 rfl (lv_at hl 0 rfl) ?_
    refine lv_aload_n hx hb dX3_init_115 rfl (lv_at hl 1 rfl) ?_
    refine va_get (D := D) (ci := 3) (v := .ref q_12) (C := RX3) (T := TX3) (N := 14) hx hb ht inX3 hown hK hP 0 rfl rfl 12 (by decide) (ht _ m_252) (fun _ h9 => h9) rfl dX3_init_116 ?_
    refine va_alen (v := 5999) hx hb hK hP 12 0 rfl rfl (show Int32.ofNat 5999 = 5999 by decide) dX3_init_119 ?_
    refine lv_icmp_ge (tgt := 153) hx hb dX3_init_120 (by decide) (fun c_120 => ?_) (fun c_120 => ?_)
    · skip
      have hP9 := hP.sub (ws' := [(h0, .inr (3, [.ref q_1, .ref q_2, .ref q_3, .ref q_4, .ref q_5, .ref q_6, .ref q_7, .int 0, .ref q_8, .ref q_9, .ref q_10, .ref q_11, .ref q_12, .int 0])), (q_1, .inl (C 0, 600, .inl (fun _ => 0))), (q_2, .inl (C 0, 600, .inl (fun _ => 0))), (q_3, .inl (C 1, 600, .inl (fun _ => 0))), (q_4, .inl (C 0, 600, .inl (fun _ => 0))), (q_5, .inl (C 0, 600, .inl (fun _ => 0))), (q_6, .inl (C 0, 600, .inl (fun _ => 0))), (q_7, .inl (C 0, 600, .inl (fun _ => 0))), (q_8, .inl (C 0, 5999, .inl (fun _ => 0))), (q_9, .inl (C 0, 5999, .inl (fun _ => 0))), (q_10, .inl (C 0, 5999, .inl (fun _ => 0))), (q_11, .inl (C 0, 5999, .inl (fun _ => 0))), (q_12, .inl (C 0, 5999, .inl f))]) [0, 1, 2, 3, 4, 5, 6, 7, 8, 9, 10, 11, 12] rfl
      have hD9 := hD.sub (ws' := [(h0, .inr (3, [.ref q_1, .ref q_2, .ref q_3, .ref q_4, .ref q_5, .ref q_6, .ref q_7, .int 0, .ref q_8, .ref q_9, .ref q_10, .ref q_11, .ref q_12, .int 0])), (q_1, .inl (C 0, 600, .inl (fun _ => 0))), (q_2, .inl (C 0, 600, .inl (fun _ => 0))), (q_3, .inl (C 1, 600, .inl (fun _ => 0))), (q_4, .inl (C 0, 600, .inl (fun _ => 0))), (q_5, .inl (C 0, 600, .inl (fun _ => 0))), (q_6, .inl (C 0, 600, .inl (fun _ => 0))), (q_7, .inl (C 0, 600, .inl (fun _ => 0))), (q_8, .inl (C 0, 5999, .inl (fun _ => 0))), (q_9, .inl (C 0, 5999, .inl (fun _ => 0))), (q_10, .inl (C 0, 5999, .inl (fun _ => 0))), (q_11, .inl (C 0, 5999, .inl (fun _ => 0))), (q_12, .inl (C 0, 5999, .inl f))]) [0, 1, 2, 3, 4, 5, 6, 7, 8, 9, 10, 11, 12] (by decide) rfl
      refine W.widen (k := 12) (n := 34195) (by decide) (by decide) ?_
      exact W.vret hx hb hr (fun t ht1 hW => ⟨⟨(xA [q_1, q_2, q_3, q_4, q_5, q_6, q_7, q_8, q_9, q_10, q_11, q_12], xF [(fun _ => 0), (fun _ => 0), (fun _ => 0), (fun _ => 0), (fun _ => 0), (fun _ => 0), (fun _ => 0), (fun _ => 0), (fun _ => 0), (fun _ => 0), (fun _ => 0), f]), rfl, by first | trivial | rfl | assumption | decide | (simp_all; done), by rw [ht1]; exact hP9, hD9⟩, hS.F ht1⟩) hS.2.2 dX3_init_153
    · exact absurd x_le5999 c_120
  · exact ⟨(fun _ => 0), hP, hD, hS, hl⟩
set_option maxHeartbeats 4000000 in
set_option maxRecDepth 100000 in
theorem k1_init (l : Launch) (D : va_G) (C : Nat → ClassId) (b0 sz : Nat) (h0 : Nat) : Met l yX1_init (xw yX1_init cX1_init 2 none) ({ frames := 16, cells := 206, slots := 1230, locals := 300 }) (xPc D C b0 [.ref h0] [(h0, .inr (1, [.null]))] sz) (va_Qv (fun u : xS => True) (xBw D (va_A [(h0, .inr (1, [.null]))] sz) (fun u => [(h0, .inr (1, [.ref (u.1 0)]))])) (va_A [(h0, .inr (1, [.null]))] sz)) 206 1230 (va_A [(h0, .inr (1, [.null]))] sz) := by
  refine Met.ofW (cc := cX1_init) (maxL := 2) (ret := none) (by decide) rfl ?_
  intro p e s m args below meth c s₁ B hml hv
  obtain ⟨rfl, hsz, hP, hK, hD0, hE⟩ := hv
  have hx := B.exec
  have hb := B.bytes
  have hr := B.returns
  have ht : ∀ w ∈ xb, w.before _ s = true := fun w h => atoms_spec (ws := xw yX1_init cX1_init 2 none) B.pre w (List.mem_cons_of_mem _ h)
  have hown : s.vm.findClass RX1 = some m.cls := findClass_of_methodNamed B.named
  have hlocks := B.notSynchronized
  have hin : meth.name = "<init>" := (name_of_methodNamed B.named B.method).1
  subst hsz
  have hAb := x_Ab hD0 hE.1
  have hD := hD0.self (sz := s.heap.size)
  generalize hAe : va_A [(h0, .inr (1, [.null]))] s.heap.size = A at hD hAb ⊢
  have hA : ∀ q : Nat, s.heap.size ≤ q → A q := fun q h => by rw [← hAe]; exact Or.inr h
  have hS : va_S A s.heap s.heap [] := va_S.rf
  have hP : va_P D vwCl [(h0, .inr (1, [.null]))] s.heap := hP
  have hl := lv_entry ([.ref h0]) (n := 2) (Nat.le_of_ble_eq_true rfl)
  rw [lg_entry_eq]
  generalize (lg_sl ([.ref h0]) ++ List.replicate (2 - (lg_sl ([.ref h0])).length) Slot.unset).toArray = ls at hl ⊢
  have hl : lv_has ls 2 [(0, .ref h0)] := hl
  refine lv_aload_n hx hb dX1_init_0 rfl (lv_at hl 0 rfl) ?_
  refine W.objInit hx hb hown (ht _ m_312) (ht _ m_99) (ht _ m_100) rfl (by rw [hml]; exact hl.1) rfl dX1_init_1 (Nat.le_of_ble_eq_true rfl) (Nat.le_of_ble_eq_true rfl) ?_
  refine W.eq (g2 := F0 m 4 ls []) rfl ?_
  refine lv_aload_n hx hb dX1_init_4 rfl (lv_at hl 0 rfl) ?_
  refine lv_sipush (v := 205) hx hb dX1_init_5 (by decide) ?_
  refine va_newq (N' := 205) hx hb hown (ht _ m_313) hE.2.2.2.2.2.1 hK hP hD hS hA (by decide) (by decide) (by decide) (by decide) (by decide) dX1_init_8 (fun q_1 cA H hK9 hP hD hS => ?_)
  obtain rfl := x_tyO (k := 3) hK9 rfl
  refine W.widen (k := 1) (n := 205) (by decide) (by decide) ?_
  have hP : va_P D vwCl [(h0, .inr (1, [.null])), (q_1, .inl (C 3, 205, .inr (.inr (.inr (.inr (fun _ => none))))))] H := hP
  have hD : va_D A [(h0, .inr (1, [.null])), (q_1, .inl (C 3, 205, .inr (.inr (.inr (.inr (fun _ => none))))))] := hD
  refine va_putF (D := D) (ci := 1) (v := .ref q_1) (ty := tyX1 0) (C := RX1) (T := TX1) (N := 1) hx hb ht inX1 tyX1 tyX1_ok nmX1 hown hK hP hD hS 0 rfl rfl 0 (by decide) (ht _ m_314) (fun _ h9 => h9) rfl hin rfl (by decide +kernel) rfl rfl (Nat.le_of_ble_eq_true rfl) dX1_init_11 (fun H locs hP hD hS => ?_)
  have hP : va_P D vwCl [(h0, .inr (1, [.ref q_1])), (q_1, .inl (C 3, 205, .inr (.inr (.inr (.inr (fun _ => none))))))] H := hP
  have hD : va_D A [(h0, .inr (1, [.ref q_1])), (q_1, .inl (C 3, 205, .inr (.inr (.inr (.inr (fun _ => none))))))] := hD
  refine lv_iconst (v := 0) hx hb dX1_init_14 (by decide) ?_
  refine lv_istore_n (lv' := [(1, .int 0), (0, .ref h0)]) hx hb dX1_init_15 rfl hl (by decide) rfl (fun ls hl => ?_)
  refine x_iter 205 (fun i => 1 + i) (fun i => 205 + 5 * i) (fun i H locs ls => ∃ f : Nat → Option Nat, va_P D vwCl [(h0, .inr (1, [.ref q_1])), (q_1, .inl (C 3, 205, .inr (.inr (.inr (.inr f)))))] H ∧ va_D A [(h0, .inr (1, [.ref q_1])), (q_1, .inl (C 3, 205, .inr (.inr (.inr (.inr f)))))] ∧ va_S A s.heap H locs ∧ lv_has ls 2 [(1, .int (nI i)), (0, .ref h0)]) (fun i H locs ls hi hI ih => ?_) (fun H locs ls hI => ?_) ?_
  · skip
    obtain ⟨f, hP, hD, hS, hl⟩ := hI
    show W p l e _ s m _ below meth c H locs (1 + i) (205 + 5 * i) _ _
    refine lv_iload_n hx hb dX1_init_16 rfl (lv_at hl 0 rfl) ?_
    refine lv_aload_n hx hb dX1_init_17 rfl (lv_at hl 1 rfl) ?_
    refine va_get (D := D) (ci := 1) (v := .ref q_1) (C := RX1) (T := TX1) (N := 1) hx hb ht inX1 hown hK hP 0 rfl rfl 0 (by decide) (ht _ m_314) (fun _ h9 => h9) rfl dX1_init_18 ?_
    refine va_alen (v := 205) hx hb hK hP 1 3 rfl rfl (show Int32.ofNat 205 = 205 by decide) dX1_init_21 ?_
    refine lv_icmp_ge (tgt := 44) hx hb dX1_init_22 (by decide) (fun c_22 => ?_) (fun c_22 => ?_)
    · exact absurd c_22 (x_lt205 hi)
    · skip
      refine lv_aload_n hx hb dX1_init_25 rfl (lv_at hl 1 rfl) ?_
      refine va_get (D := D) (ci := 1) (v := .ref q_1) (C := RX1) (T := TX1) (N := 1) hx hb ht inX1 hown hK hP 0 rfl rfl 0 (by decide) (ht _ m_314) (fun _ h9 => h9) rfl dX1_init_26 ?_
      refine lv_iload_n hx hb dX1_init_29 rfl (lv_at hl 0 rfl) ?_
      refine va_new (ci := 0) (fs := [.int 0, .int 0, .int 0, .int 0, .int 0]) (C := RX0) (T := TX0) (N := 5) hx hb ht inX0 tyX0 tyX0_ok hown (ht _ m_313) (ht _ m_315) (ht _ m_316) hK hP hD hS hA rfl (fun j hj => nfX0 j hj) (show _ ≤ 206 by omega) (show _ ≤ 1230 by omega) dX1_init_30 (fun q_2 H hP hD hS => ?_)
      refine W.widen (k := 1 + i + 1) (n := 205 + 5 * i + 5) (by omega) (by omega) ?_
      have hP : va_P D vwCl [(h0, .inr (1, [.ref q_1])), (q_1, .inl (C 3, 205, .inr (.inr (.inr (.inr f))))), (q_2, .inr (0, [.int 0, .int 0, .int 0, .int 0, .int 0]))] H := hP
      have hD : va_D A [(h0, .inr (1, [.ref q_1])), (q_1, .inl (C 3, 205, .inr (.inr (.inr (.inr f))))), (q_2, .inr (0, [.int 0, .int 0, .int 0, .int 0, .int 0]))] := hD
      refine lv_dup hx hb dX1_init_33 rfl ?_
      have hPc := hP.sub (ws' := [(q_2, .inr (0, [.int 0, .int 0, .int 0, .int 0, .int 0]))]) [2] rfl
      have hDc := hD.sub (ws' := [(q_2, .inr (0, [.int 0, .int 0, .int 0, .int 0, .int 0]))]) [2] (by decide) rfl
      have hFc := va_free (wc := [(q_2, .inr (0, [.int 0, .int 0, .int 0, .int 0, .int 0]))]) hD hS hA [2] rfl
      refine va_callv (va_runIN (host := "ObjectRules") (As := []) (rest := [.ref q_2, .int (nI i), .ref q_1]) ⟨hx, hb, hml, hown, ht⟩ (k0_init l D C b0 H.size q_2) ⟨va_cnB 0 ht (xg_c m_152) rfl rfl rfl (hE.nw (by decide +kernel)) (ht _ m_316) (by decide +kernel) ⟨Nat.le_of_ble_eq_true rfl, Nat.le_of_ble_eq_true rfl⟩, rfl, ht _ m_317⟩ ⟨xPc_bl, xPc_at hPc hK hDc hE hS hAb⟩ rfl rfl hl.1 rfl (lv_room (Nat.le_of_ble_eq_true rfl)) dX1_init_34 ⟨(show _ ≤ 206 by omega), (show _ ≤ 1230 by omega)⟩) hS (fun q _ h => hFc q h) hFc (fun u_3 t H1 locs ht1 hvm hw hB hz1 hk1 hS => ?_)
      obtain ⟨hP1, hD1⟩ := hB
      rw [ht1] at hP1
      try dsimp only at hw
      obtain ⟨hP, hD⟩ := va_join (wr := [(h0, .inr (1, [.ref q_1])), (q_1, .inl (C 3, 205, .inr (.inr (.inr (.inr f)))))]) (w1 := [(q_2, .inr (0, [.int 0, .int 0, .int 0, .int 0, .int 0]))]) hP hD [2] [0, 1] rfl rfl (by decide) (by decide) hk1 hFc hP1 hD1
      generalize H1 = H at hP hS ⊢
      have hP : va_P D vwCl [(h0, .inr (1, [.ref q_1])), (q_1, .inl (C 3, 205, .inr (.inr (.inr (.inr f))))), (q_2, .inr (0, [.int 0, .int 0, .int 0, .int 0, .int 0]))] H := hP
      have hD : va_D A [(h0, .inr (1, [.ref q_1])), (q_1, .inl (C 3, 205, .inr (.inr (.inr (.inr f))))), (q_2, .inr (0, [.int 0, .int 0, .int 0, .int 0, .int 0]))] := hD
      have hq_34 := hw
      refine va_astq hx hb hK hP hD hS 1 3 2 0 rfl rfl rfl rfl (vp_in_nI hi (by decide)) dX1_init_37 (fun H locs hP hD hS => ?_)
      have hP : va_P D vwCl [(h0, .inr (1, [.ref q_1])), (q_1, .inl (C 3, 205, .inr (.inr (.inr (.inr ((va_up f (Int32.toNatClampNeg (nI i)) (some q_2)))))))), (q_2, .inr (0, [.int 0, .int 0, .int 0, .int 0, .int 0]))] H := hP
      have hD : va_D A [(h0, .inr (1, [.ref q_1])), (q_1, .inl (C 3, 205, .inr (.inr (.inr (.inr ((va_up f (Int32.toNatClampNeg (nI i)) (some q_2)))))))), (q_2, .inr (0, [.int 0, .int 0, .int 0, .int 0, .int 0]))] := hD
      obtain ⟨x_4, ex_4⟩ : ∃ y : Int32, y = (nI i) + 1 := ⟨_, rfl⟩
      refine lv_iinc (v := x_4) (lv' := [(1, .int x_4), (0, .ref h0)]) hx hb dX1_init_38 hl (k := 0) rfl (by rw [ex_4]; rfl) (by decide) rfl (fun ls hl => ?_)
      refine lv_goto (tgt := 16) hx hb dX1_init_41 (by decide) ?_
      obtain rfl : x_4 = nI (i + 1) := ex_4.trans (nI_1 i)
      refine W.widen (k := 1 + (i + 1)) (n := 205 + 5 * (i + 1)) (by omega) (by omega) ?_
      exact ih _ _ _ ⟨_, hP.sub (ws' := [(h0, .inr (1, [.ref q_1])), (q_1, .inl (C 3, 205, .inr (.inr (.inr (.inr ((va_up f (Int32.toNatClampNeg (nI i)) (some q_2))))))))]) [0, 1] rfl, hD.sub (ws' := [(h0, .inr (1, [.ref q_1])), (q_1, .inl (C 3, 205, .inr (.inr (.inr (.inr ((va_up f (Int32.toNatClampNeg (nI i)) (some q_2))))))))]) [0, 1] (by decide) rfl, hS, hl⟩
  · skip
    obtain ⟨f, hP, hD, hS, hl⟩ := hI
    refine W.widen (k := 206) (n := 1230) (by decide) (by decide) ?_
    refine lv_iload_n hx hb dX1_init_16 rfl (lv_at hl 0 rfl) ?_
    refine lv_aload_n hx hb dX1_init_17 rfl (lv_at hl 1 rfl) ?_
    refine va_get (D := D) (ci := 1) (v := .ref q_1) (C := RX1) (T := TX1) (N := 1) hx hb ht inX1 hown hK hP 0 rfl rfl 0 (by decide) (ht _ m_314) (fun _ h9 => h9) rfl dX1_init_18 ?_
    refine va_alen (v := 205) hx hb hK hP 1 3 rfl rfl (show Int32.ofNat 205 = 205 by decide) dX1_init_21 ?_
    refine lv_icmp_ge (tgt := 44) hx hb dX1_init_22 (by decide) (fun c_22 => ?_) (fun c_22 => ?_)
    · skip
      have hP9 := hP.sub (ws' := [(h0, .inr (1, [.ref q_1]))]) [0] rfl
      have hD9 := hD.sub (ws' := [(h0, .inr (1, [.ref q_1]))]) [0] (by decide) rfl
      refine W.widen (k := 206) (n := 1230) (by decide) (by decide) ?_
      exact W.vret hx hb hr (fun t ht1 hW => ⟨⟨(xA [q_1], xF []), rfl, by first | trivial | rfl | assumption | decide | (simp_all; done), by rw [ht1]; exact hP9, hD9⟩, hS.F ht1⟩) hS.2.2 dX1_init_44
    · exact absurd x_le205 c_22
  · exact ⟨(fun _ => none), hP, hD, hS, hl⟩
set_option maxHeartbeats 4000000 in
set_option maxRecDepth 100000 in
theorem k5_init (l : Launch) (D : va_G) (C : Nat → ClassId) (b0 sz : Nat) (h0 : Nat) : Met l yX5_init (xw yX5_init cX5_init 1 none) ({ frames := 24, cells := 229, slots := 49442, locals := 450 }) (xPc D C b0 [.ref h0] [(h0, .inr (5, [.null, .null, .null, .null, .null, .null, .null, .int 0, .int 0, .int 0, .int 0, .int 0]))] sz) (va_Qv (fun u : xS => True) (xBw D (va_A [(h0, .inr (5, [.null, .null, .null, .null, .null, .null, .null, .int 0, .int 0, .int 0, .int 0, .int 0]))] sz) (fun u => [(h0, .inr (5, [.ref (u.1 0), .ref (u.1 13), .ref (u.1 14), .ref (u.1 15), .ref (u.1 16), .ref (u.1 17), .ref (u.1 18), .int 0, .int 0, .int (-1), .int 0, .int 0])), (u.1 14, .inr (2, [.ref (u.1 19), .ref (u.1 20), .int 0])), (u.1 15, .inr (4, [.ref (u.1 21), .ref (u.1 22), .int 1])), (u.1 0, .inr (3, [.ref (u.1 1), .ref (u.1 2), .ref (u.1 3), .ref (u.1 4), .ref (u.1 5), .ref (u.1 6), .ref (u.1 7), .int 0, .ref (u.1 8), .ref (u.1 9), .ref (u.1 10), .ref (u.1 11), .ref (u.1 12), .int 0])), (u.1 1, .inl (C 0, 600, .inl (u.2 0))), (u.1 2, .inl (C 0, 600, .inl (u.2 1))), (u.1 3, .inl (C 1, 600, .inl (u.2 2))), (u.1 4, .inl (C 0, 600, .inl (u.2 3))), (u.1 5, .inl (C 0, 600, .inl (u.2 4))), (u.1 6, .inl (C 0, 600, .inl (u.2 5))), (u.1 7, .inl (C 0, 600, .inl (u.2 6))), (u.1 8, .inl (C 0, 5999, .inl (u.2 7))), (u.1 9, .inl (C 0, 5999, .inl (u.2 8))), (u.1 10, .inl (C 0, 5999, .inl (u.2 9))), (u.1 11, .inl (C 0, 5999, .inl (u.2 10))), (u.1 12, .inl (C 0, 5999, .inl (u.2 11)))])) (va_A [(h0, .inr (5, [.null, .null, .null, .null, .null, .null, .null, .int 0, .int 0, .int 0, .int 0, .int 0]))] sz)) 229 49442 (va_A [(h0, .inr (5, [.null, .null, .null, .null, .null, .null, .null, .int 0, .int 0, .int 0, .int 0, .int 0]))] sz) := by
  refine Met.ofW (cc := cX5_init) (maxL := 1) (ret := none) (by decide) rfl ?_
  intro p e s m args below meth c s₁ B hml hv
  obtain ⟨rfl, hsz, hP, hK, hD0, hE⟩ := hv
  have hx := B.exec
  have hb := B.bytes
  have hr := B.returns
  have ht : ∀ w ∈ xb, w.before _ s = true := fun w h => atoms_spec (ws := xw yX5_init cX5_init 1 none) B.pre w (List.mem_cons_of_mem _ h)
  have hown : s.vm.findClass RX5 = some m.cls := findClass_of_methodNamed B.named
  have hlocks := B.notSynchronized
  have hin : meth.name = "<init>" := (name_of_methodNamed B.named B.method).1
  subst hsz
  have hAb := x_Ab hD0 hE.1
  have hD := hD0.self (sz := s.heap.size)
  generalize hAe : va_A [(h0, .inr (5, [.null, .null, .null, .null, .null, .null, .null, .int 0, .int 0, .int 0, .int 0, .int 0]))] s.heap.size = A at hD hAb ⊢
  have hA : ∀ q : Nat, s.heap.size ≤ q → A q := fun q h => by rw [← hAe]; exact Or.inr h
  have hS : va_S A s.heap s.heap [] := va_S.rf
  have hP : va_P D vwCl [(h0, .inr (5, [.null, .null, .null, .null, .null, .null, .null, .int 0, .int 0, .int 0, .int 0, .int 0]))] s.heap := hP
  have hl := lv_entry ([.ref h0]) (n := 1) (Nat.le_of_ble_eq_true rfl)
  rw [lg_entry_eq]
  generalize (lg_sl ([.ref h0]) ++ List.replicate (1 - (lg_sl ([.ref h0])).length) Slot.unset).toArray = ls at hl ⊢
  have hl : lv_has ls 1 [(0, .ref h0)] := hl
  refine lv_aload_n hx hb dX5_init_0 rfl (lv_at hl 0 rfl) ?_
  refine W.objInit hx hb hown (ht _ m_318) (ht _ m_99) (ht _ m_100) rfl (by rw [hml]; exact hl.1) rfl dX5_init_1 (Nat.le_of_ble_eq_true rfl) (Nat.le_of_ble_eq_true rfl) ?_
  refine W.eq (g2 := F0 m 4 ls []) rfl ?_
  refine lv_aload_n hx hb dX5_init_4 rfl (lv_at hl 0 rfl) ?_
  refine va_new (ci := 3) (fs := [.null, .null, .null, .null, .null, .null, .null, .int 0, .null, .null, .null, .null, .null, .int 0]) (C := RX3) (T := TX3) (N := 14) hx hb ht inX3 tyX3 tyX3_ok hown (ht _ m_319) (ht _ m_320) (ht _ m_217) hK hP hD hS hA rfl (fun j hj => nfX3 j hj) (by decide) (by decide) dX5_init_5 (fun q_1 H hP hD hS => ?_)
  refine W.widen (k := 1) (n := 14) (by decide) (by decide) ?_
  have hP : va_P D vwCl [(h0, .inr (5, [.null, .null, .null, .null, .null, .null, .null, .int 0, .int 0, .int 0, .int 0, .int 0])), (q_1, .inr (3, [.null, .null, .null, .null, .null, .null, .null, .int 0, .null, .null, .null, .null, .null, .int 0]))] H := hP
  have hD : va_D A [(h0, .inr (5, [.null, .null, .null, .null, .null, .null, .null, .int 0, .int 0, .int 0, .int 0, .int 0])), (q_1, .inr (3, [.null, .null, .null, .null, .null, .null, .null, .int 0, .null, .null, .null, .null, .null, .int 0]))] := hD
  refine lv_dup hx hb dX5_init_8 rfl ?_
  have hPc := hP.sub (ws' := [(q_1, .inr (3, [.null, .null, .null, .null, .null, .null, .null, .int 0, .null, .null, .null, .null, .null, .int 0]))]) [1] rfl
  have hDc := hD.sub (ws' := [(q_1, .inr (3, [.null, .null, .null, .null, .null, .null, .null, .int 0, .null, .null, .null, .null, .null, .int 0]))]) [1] (by decide) rfl
  have hFc := va_free (wc := [(q_1, .inr (3, [.null, .null, .null, .null, .null, .null, .null, .int 0, .null, .null, .null, .null, .null, .int 0]))]) hD hS hA [1] rfl
  refine va_callv (va_runI (As := []) (rest := [.ref q_1, .ref h0]) ⟨hx, hb, hml, hown, ht⟩ (k3_init l D C b0 H.size q_1) (cwI 0 ht (xg_c m_200) rfl rfl rfl (ht _ m_217) (ht _ m_321) (ht _ m_322) rfl (by decide +kernel) ⟨Nat.le_of_ble_eq_true rfl, Nat.le_of_ble_eq_true rfl⟩) ⟨xPc_bl, xPc_at hPc hK hDc hE hS hAb⟩ rfl rfl hl.1 rfl (lv_room (Nat.le_of_ble_eq_true rfl)) dX5_init_9 ⟨(by decide), (by decide)⟩) hS (fun q _ h => hFc q h) hFc (fun u_2 t H1 locs ht1 hvm hw hB hz1 hk1 hS => ?_)
  obtain ⟨hP1, hD1⟩ := hB
  rw [ht1] at hP1
  try dsimp only at hw
  obtain ⟨hP, hD⟩ := va_join (wr := [(h0, .inr (5, [.null, .null, .null, .null, .null, .null, .null, .int 0, .int 0, .int 0, .int 0, .int 0]))]) (w1 := [(q_1, .inr (3, [.ref (u_2.1 0), .ref (u_2.1 1), .ref (u_2.1 2), .ref (u_2.1 3), .ref (u_2.1 4), .ref (u_2.1 5), .ref (u_2.1 6), .int 0, .ref (u_2.1 7), .ref (u_2.1 8), .ref (u_2.1 9), .ref (u_2.1 10), .ref (u_2.1 11), .int 0])), ((u_2.1 0), .inl (C 0, 600, .inl (u_2.2 0))), ((u_2.1 1), .inl (C 0, 600, .inl (u_2.2 1))), ((u_2.1 2), .inl (C 1, 600, .inl (u_2.2 2))), ((u_2.1 3), .inl (C 0, 600, .inl (u_2.2 3))), ((u_2.1 4), .inl (C 0, 600, .inl (u_2.2 4))), ((u_2.1 5), .inl (C 0, 600, .inl (u_2.2 5))), ((u_2.1 6), .inl (C 0, 600, .inl (u_2.2 6))), ((u_2.1 7), .inl (C 0, 5999, .inl (u_2.2 7))), ((u_2.1 8), .inl (C 0, 5999, .inl (u_2.2 8))), ((u_2.1 9), .inl (C 0, 5999, .inl (u_2.2 9))), ((u_2.1 10), .inl (C 0, 5999, .inl (u_2.2 10))), ((u_2.1 11), .inl (C 0, 5999, .inl (u_2.2 11)))]) hP hD [1] [0] rfl rfl (by decide) (by decide) hk1 hFc hP1 hD1
  generalize H1 = H at hP hS ⊢
  have hP : va_P D vwCl [(h0, .inr (5, [.null, .null, .null, .null, .null, .null, .null, .int 0, .int 0, .int 0, .int 0, .int 0])), (q_1, .inr (3, [.ref (u_2.1 0), .ref (u_2.1 1), .ref (u_2.1 2), .ref (u_2.1 3), .ref (u_2.1 4), .ref (u_2.1 5), .ref (u_2.1 6), .int 0, .ref (u_2.1 7), .ref (u_2.1 8), .ref (u_2.1 9), .ref (u_2.1 10), .ref (u_2.1 11), .int 0])), ((u_2.1 0), .inl (C 0, 600, .inl (u_2.2 0))), ((u_2.1 1), .inl (C 0, 600, .inl (u_2.2 1))), ((u_2.1 2), .inl (C 1, 600, .inl (u_2.2 2))), ((u_2.1 3), .inl (C 0, 600, .inl (u_2.2 3))), ((u_2.1 4), .inl (C 0, 600, .inl (u_2.2 4))), ((u_2.1 5), .inl (C 0, 600, .inl (u_2.2 5))), ((u_2.1 6), .inl (C 0, 600, .inl (u_2.2 6))), ((u_2.1 7), .inl (C 0, 5999, .inl (u_2.2 7))), ((u_2.1 8), .inl (C 0, 5999, .inl (u_2.2 8))), ((u_2.1 9), .inl (C 0, 5999, .inl (u_2.2 9))), ((u_2.1 10), .inl (C 0, 5999, .inl (u_2.2 10))), ((u_2.1 11), .inl (C 0, 5999, .inl (u_2.2 11)))] H := hP
  have hD : va_D A [(h0, .inr (5, [.null, .null, .null, .null, .null, .null, .null, .int 0, .int 0, .int 0, .int 0, .int 0])), (q_1, .inr (3, [.ref (u_2.1 0), .ref (u_2.1 1), .ref (u_2.1 2), .ref (u_2.1 3), .ref (u_2.1 4), .ref (u_2.1 5), .ref (u_2.1 6), .int 0, .ref (u_2.1 7), .ref (u_2.1 8), .ref (u_2.1 9), .ref (u_2.1 10), .ref (u_2.1 11), .int 0])), ((u_2.1 0), .inl (C 0, 600, .inl (u_2.2 0))), ((u_2.1 1), .inl (C 0, 600, .inl (u_2.2 1))), ((u_2.1 2), .inl (C 1, 600, .inl (u_2.2 2))), ((u_2.1 3), .inl (C 0, 600, .inl (u_2.2 3))), ((u_2.1 4), .inl (C 0, 600, .inl (u_2.2 4))), ((u_2.1 5), .inl (C 0, 600, .inl (u_2.2 5))), ((u_2.1 6), .inl (C 0, 600, .inl (u_2.2 6))), ((u_2.1 7), .inl (C 0, 5999, .inl (u_2.2 7))), ((u_2.1 8), .inl (C 0, 5999, .inl (u_2.2 8))), ((u_2.1 9), .inl (C 0, 5999, .inl (u_2.2 9))), ((u_2.1 10), .inl (C 0, 5999, .inl (u_2.2 10))), ((u_2.1 11), .inl (C 0, 5999, .inl (u_2.2 11)))] := hD
  have hq_9 := hw
  refine W.widen (k := 13) (n := 34209) (by decide) (by decide) ?_
  refine va_putF (D := D) (ci := 5) (v := .ref q_1) (ty := tyX5 0) (C := RX5) (T := TX5) (N := 12) hx hb ht inX5 tyX5 tyX5_ok nmX5 hown hK hP hD hS 0 rfl rfl 0 (by decide) (ht _ m_233) (fun _ h9 => h9) rfl hin rfl (by decide +kernel) rfl rfl (Nat.le_of_ble_eq_true rfl) dX5_init_12 (fun H locs hP hD hS => ?_)
  have hP : va_P D vwCl [(h0, .inr (5, [.ref q_1, .null, .null, .null, .null, .null, .null, .int 0, .int 0, .int 0, .int 0, .int 0])), (q_1, .inr (3, [.ref (u_2.1 0), .ref (u_2.1 1), .ref (u_2.1 2), .ref (u_2.1 3), .ref (u_2.1 4), .ref (u_2.1 5), .ref (u_2.1 6), .int 0, .ref (u_2.1 7), .ref (u_2.1 8), .ref (u_2.1 9), .ref (u_2.1 10), .ref (u_2.1 11), .int 0])), ((u_2.1 0), .inl (C 0, 600, .inl (u_2.2 0))), ((u_2.1 1), .inl (C 0, 600, .inl (u_2.2 1))), ((u_2.1 2), .inl (C 1, 600, .inl (u_2.2 2))), ((u_2.1 3), .inl (C 0, 600, .inl (u_2.2 3))), ((u_2.1 4), .inl (C 0, 600, .inl (u_2.2 4))), ((u_2.1 5), .inl (C 0, 600, .inl (u_2.2 5))), ((u_2.1 6), .inl (C 0, 600, .inl (u_2.2 6))), ((u_2.1 7), .inl (C 0, 5999, .inl (u_2.2 7))), ((u_2.1 8), .inl (C 0, 5999, .inl (u_2.2 8))), ((u_2.1 9), .inl (C 0, 5999, .inl (u_2.2 9))), ((u_2.1 10), .inl (C 0, 5999, .inl (u_2.2 10))), ((u_2.1 11), .inl (C 0, 5999, .inl (u_2.2 11)))] H := hP
  have hD : va_D A [(h0, .inr (5, [.ref q_1, .null, .null, .null, .null, .null, .null, .int 0, .int 0, .int 0, .int 0, .int 0])), (q_1, .inr (3, [.ref (u_2.1 0), .ref (u_2.1 1), .ref (u_2.1 2), .ref (u_2.1 3), .ref (u_2.1 4), .ref (u_2.1 5), .ref (u_2.1 6), .int 0, .ref (u_2.1 7), .ref (u_2.1 8), .ref (u_2.1 9), .ref (u_2.1 10), .ref (u_2.1 11), .int 0])), ((u_2.1 0), .inl (C 0, 600, .inl (u_2.2 0))), ((u_2.1 1), .inl (C 0, 600, .inl (u_2.2 1))), ((u_2.1 2), .inl (C 1, 600, .inl (u_2.2 2))), ((u_2.1 3), .inl (C 0, 600, .inl (u_2.2 3))), ((u_2.1 4), .inl (C 0, 600, .inl (u_2.2 4))), ((u_2.1 5), .inl (C 0, 600, .inl (u_2.2 5))), ((u_2.1 6), .inl (C 0, 600, .inl (u_2.2 6))), ((u_2.1 7), .inl (C 0, 5999, .inl (u_2.2 7))), ((u_2.1 8), .inl (C 0, 5999, .inl (u_2.2 8))), ((u_2.1 9), .inl (C 0, 5999, .inl (u_2.2 9))), ((u_2.1 10), .inl (C 0, 5999, .inl (u_2.2 10))), ((u_2.1 11), .inl (C 0, 5999, .inl (u_2.2 11)))] := hD
  refine lv_aload_n hx hb dX5_init_15 rfl (lv_at hl 0 rfl) ?_
  refine va_new (ci := 1) (fs := [.null]) (C := RX1) (T := TX1) (N := 1) hx hb ht inX1 tyX1 tyX1_ok hown (ht _ m_323) (ht _ m_324) (ht _ m_325) hK hP hD hS hA rfl (fun j hj => nfX1 j hj) (by decide) (by decide) dX5_init_16 (fun q_3 H hP hD hS => ?_)
  refine W.widen (k := 14) (n := 34210) (by decide) (by decide) ?_
  have hP : va_P D vwCl [(h0, .inr (5, [.ref q_1, .null, .null, .null, .null, .null, .null, .int 0, .int 0, .int 0, .int 0, .int 0])), (q_1, .inr (3, [.ref (u_2.1 0), .ref (u_2.1 1), .ref (u_2.1 2), .ref (u_2.1 3), .ref (u_2.1 4), .ref (u_2.1 5), .ref (u_2.1 6), .int 0, .ref (u_2.1 7), .ref (u_2.1 8), .ref (u_2.1 9), .ref (u_2.1 10), .ref (u_2.1 11), .int 0])), ((u_2.1 0), .inl (C 0, 600, .inl (u_2.2 0))), ((u_2.1 1), .inl (C 0, 600, .inl (u_2.2 1))), ((u_2.1 2), .inl (C 1, 600, .inl (u_2.2 2))), ((u_2.1 3), .inl (C 0, 600, .inl (u_2.2 3))), ((u_2.1 4), .inl (C 0, 600, .inl (u_2.2 4))), ((u_2.1 5), .inl (C 0, 600, .inl (u_2.2 5))), ((u_2.1 6), .inl (C 0, 600, .inl (u_2.2 6))), ((u_2.1 7), .inl (C 0, 5999, .inl (u_2.2 7))), ((u_2.1 8), .inl (C 0, 5999, .inl (u_2.2 8))), ((u_2.1 9), .inl (C 0, 5999, .inl (u_2.2 9))), ((u_2.1 10), .inl (C 0, 5999, .inl (u_2.2 10))), ((u_2.1 11), .inl (C 0, 5999, .inl (u_2.2 11))), (q_3, .inr (1, [.null]))] H := hP
  have hD : va_D A [(h0, .inr (5, [.ref q_1, .null, .null, .null, .null, .null, .null, .int 0, .int 0, .int 0, .int 0, .int 0])), (q_1, .inr (3, [.ref (u_2.1 0), .ref (u_2.1 1), .ref (u_2.1 2), .ref (u_2.1 3), .ref (u_2.1 4), .ref (u_2.1 5), .ref (u_2.1 6), .int 0, .ref (u_2.1 7), .ref (u_2.1 8), .ref (u_2.1 9), .ref (u_2.1 10), .ref (u_2.1 11), .int 0])), ((u_2.1 0), .inl (C 0, 600, .inl (u_2.2 0))), ((u_2.1 1), .inl (C 0, 600, .inl (u_2.2 1))), ((u_2.1 2), .inl (C 1, 600, .inl (u_2.2 2))), ((u_2.1 3), .inl (C 0, 600, .inl (u_2.2 3))), ((u_2.1 4), .inl (C 0, 600, .inl (u_2.2 4))), ((u_2.1 5), .inl (C 0, 600, .inl (u_2.2 5))), ((u_2.1 6), .inl (C 0, 600, .inl (u_2.2 6))), ((u_2.1 7), .inl (C 0, 5999, .inl (u_2.2 7))), ((u_2.1 8), .inl (C 0, 5999, .inl (u_2.2 8))), ((u_2.1 9), .inl (C 0, 5999, .inl (u_2.2 9))), ((u_2.1 10), .inl (C 0, 5999, .inl (u_2.2 10))), ((u_2.1 11), .inl (C 0, 5999, .inl (u_2.2 11))), (q_3, .inr (1, [.null]))] := hD
  refine lv_dup hx hb dX5_init_19 rfl ?_
  have hPc := hP.sub (ws' := [(q_3, .inr (1, [.null]))]) [14] rfl
  have hDc := hD.sub (ws' := [(q_3, .inr (1, [.null]))]) [14] (by decide) rfl
  have hFc := va_free (wc := [(q_3, .inr (1, [.null]))]) hD hS hA [14] rfl
  refine va_callv (va_runI (As := []) (rest := [.ref q_3, .ref h0]) ⟨hx, hb, hml, hown, ht⟩ (k1_init l D C b0 H.size q_3) (cwI 0 ht (xg_c m_201) rfl rfl rfl (ht _ m_325) (ht _ m_326) (ht _ m_327) rfl (by decide +kernel) ⟨Nat.le_of_ble_eq_true rfl, Nat.le_of_ble_eq_true rfl⟩) ⟨xPc_bl, xPc_at hPc hK hDc hE hS hAb⟩ rfl rfl hl.1 rfl (lv_room (Nat.le_of_ble_eq_true rfl)) dX5_init_20 ⟨(by decide), (by decide)⟩) hS (fun q _ h => hFc q h) hFc (fun u_4 t H1 locs ht1 hvm hw hB hz1 hk1 hS => ?_)
  obtain ⟨hP1, hD1⟩ := hB
  rw [ht1] at hP1
  try dsimp only at hw
  obtain ⟨hP, hD⟩ := va_join (wr := [(h0, .inr (5, [.ref q_1, .null, .null, .null, .null, .null, .null, .int 0, .int 0, .int 0, .int 0, .int 0])), (q_1, .inr (3, [.ref (u_2.1 0), .ref (u_2.1 1), .ref (u_2.1 2), .ref (u_2.1 3), .ref (u_2.1 4), .ref (u_2.1 5), .ref (u_2.1 6), .int 0, .ref (u_2.1 7), .ref (u_2.1 8), .ref (u_2.1 9), .ref (u_2.1 10), .ref (u_2.1 11), .int 0])), ((u_2.1 0), .inl (C 0, 600, .inl (u_2.2 0))), ((u_2.1 1), .inl (C 0, 600, .inl (u_2.2 1))), ((u_2.1 2), .inl (C 1, 600, .inl (u_2.2 2))), ((u_2.1 3), .inl (C 0, 600, .inl (u_2.2 3))), ((u_2.1 4), .inl (C 0, 600, .inl (u_2.2 4))), ((u_2.1 5), .inl (C 0, 600, .inl (u_2.2 5))), ((u_2.1 6), .inl (C 0, 600, .inl (u_2.2 6))), ((u_2.1 7), .inl (C 0, 5999, .inl (u_2.2 7))), ((u_2.1 8), .inl (C 0, 5999, .inl (u_2.2 8))), ((u_2.1 9), .inl (C 0, 5999, .inl (u_2.2 9))), ((u_2.1 10), .inl (C 0, 5999, .inl (u_2.2 10))), ((u_2.1 11), .inl (C 0, 5999, .inl (u_2.2 11)))]) (w1 := [(q_3, .inr (1, [.ref (u_4.1 0)]))]) hP hD [14] [0, 1, 2, 3, 4, 5, 6, 7, 8, 9, 10, 11, 12, 13] rfl rfl (by decide) (by decide) hk1 hFc hP1 hD1
  generalize H1 = H at hP hS ⊢
  have hP : va_P D vwCl [(h0, .inr (5, [.ref q_1, .null, .null, .null, .null, .null, .null, .int 0, .int 0, .int 0, .int 0, .int 0])), (q_1, .inr (3, [.ref (u_2.1 0), .ref (u_2.1 1), .ref (u_2.1 2), .ref (u_2.1 3), .ref (u_2.1 4), .ref (u_2.1 5), .ref (u_2.1 6), .int 0, .ref (u_2.1 7), .ref (u_2.1 8), .ref (u_2.1 9), .ref (u_2.1 10), .ref (u_2.1 11), .int 0])), ((u_2.1 0), .inl (C 0, 600, .inl (u_2.2 0))), ((u_2.1 1), .inl (C 0, 600, .inl (u_2.2 1))), ((u_2.1 2), .inl (C 1, 600, .inl (u_2.2 2))), ((u_2.1 3), .inl (C 0, 600, .inl (u_2.2 3))), ((u_2.1 4), .inl (C 0, 600, .inl (u_2.2 4))), ((u_2.1 5), .inl (C 0, 600, .inl (u_2.2 5))), ((u_2.1 6), .inl (C 0, 600, .inl (u_2.2 6))), ((u_2.1 7), .inl (C 0, 5999, .inl (u_2.2 7))), ((u_2.1 8), .inl (C 0, 5999, .inl (u_2.2 8))), ((u_2.1 9), .inl (C 0, 5999, .inl (u_2.2 9))), ((u_2.1 10), .inl (C 0, 5999, .inl (u_2.2 10))), ((u_2.1 11), .inl (C 0, 5999, .inl (u_2.2 11))), (q_3, .inr (1, [.ref (u_4.1 0)]))] H := hP
  have hD : va_D A [(h0, .inr (5, [.ref q_1, .null, .null, .null, .null, .null, .null, .int 0, .int 0, .int 0, .int 0, .int 0])), (q_1, .inr (3, [.ref (u_2.1 0), .ref (u_2.1 1), .ref (u_2.1 2), .ref (u_2.1 3), .ref (u_2.1 4), .ref (u_2.1 5), .ref (u_2.1 6), .int 0, .ref (u_2.1 7), .ref (u_2.1 8), .ref (u_2.1 9), .ref (u_2.1 10), .ref (u_2.1 11), .int 0])), ((u_2.1 0), .inl (C 0, 600, .inl (u_2.2 0))), ((u_2.1 1), .inl (C 0, 600, .inl (u_2.2 1))), ((u_2.1 2), .inl (C 1, 600, .inl (u_2.2 2))), ((u_2.1 3), .inl (C 0, 600, .inl (u_2.2 3))), ((u_2.1 4), .inl (C 0, 600, .inl (u_2.2 4))), ((u_2.1 5), .inl (C 0, 600, .inl (u_2.2 5))), ((u_2.1 6), .inl (C 0, 600, .inl (u_2.2 6))), ((u_2.1 7), .inl (C 0, 5999, .inl (u_2.2 7))), ((u_2.1 8), .inl (C 0, 5999, .inl (u_2.2 8))), ((u_2.1 9), .inl (C 0, 5999, .inl (u_2.2 9))), ((u_2.1 10), .inl (C 0, 5999, .inl (u_2.2 10))), ((u_2.1 11), .inl (C 0, 5999, .inl (u_2.2 11))), (q_3, .inr (1, [.ref (u_4.1 0)]))] := hD
  have hq_20 := hw
  refine W.widen (k := 220) (n := 35440) (by decide) (by decide) ?_
  refine va_putF (D := D) (ci := 5) (v := .ref q_3) (ty := tyX5 1) (C := RX5) (T := TX5) (N := 12) hx hb ht inX5 tyX5 tyX5_ok nmX5 hown hK hP hD hS 0 rfl rfl 1 (by decide) (ht _ m_328) (fun _ h9 => h9) rfl hin rfl (by decide +kernel) rfl rfl (Nat.le_of_ble_eq_true rfl) dX5_init_23 (fun H locs hP hD hS => ?_)
  have hP : va_P D vwCl [(h0, .inr (5, [.ref q_1, .ref q_3, .null, .null, .null, .null, .null, .int 0, .int 0, .int 0, .int 0, .int 0])), (q_1, .inr (3, [.ref (u_2.1 0), .ref (u_2.1 1), .ref (u_2.1 2), .ref (u_2.1 3), .ref (u_2.1 4), .ref (u_2.1 5), .ref (u_2.1 6), .int 0, .ref (u_2.1 7), .ref (u_2.1 8), .ref (u_2.1 9), .ref (u_2.1 10), .ref (u_2.1 11), .int 0])), ((u_2.1 0), .inl (C 0, 600, .inl (u_2.2 0))), ((u_2.1 1), .inl (C 0, 600, .inl (u_2.2 1))), ((u_2.1 2), .inl (C 1, 600, .inl (u_2.2 2))), ((u_2.1 3), .inl (C 0, 600, .inl (u_2.2 3))), ((u_2.1 4), .inl (C 0, 600, .inl (u_2.2 4))), ((u_2.1 5), .inl (C 0, 600, .inl (u_2.2 5))), ((u_2.1 6), .inl (C 0, 600, .inl (u_2.2 6))), ((u_2.1 7), .inl (C 0, 5999, .inl (u_2.2 7))), ((u_2.1 8), .inl (C 0, 5999, .inl (u_2.2 8))), ((u_2.1 9), .inl (C 0, 5999, .inl (u_2.2 9))), ((u_2.1 10), .inl (C 0, 5999, .inl (u_2.2 10))), ((u_2.1 11), .inl (C 0, 5999, .inl (u_2.2 11))), (q_3, .inr (1, [.ref (u_4.1 0)]))] H := hP
  have hD : va_D A [(h0, .inr (5, [.ref q_1, .ref q_3, .null, .null, .null, .null, .null, .int 0, .int 0, .int 0, .int 0, .int 0])), (q_1, .inr (3, [.ref (u_2.1 0), .ref (u_2.1 1), .ref (u_2.1 2), .ref (u_2.1 3), .ref (u_2.1 4), .ref (u_2.1 5), .ref (u_2.1 6), .int 0, .ref (u_2.1 7), .ref (u_2.1 8), .ref (u_2.1 9), .ref (u_2.1 10), .ref (u_2.1 11), .int 0])), ((u_2.1 0), .inl (C 0, 600, .inl (u_2.2 0))), ((u_2.1 1), .inl (C 0, 600, .inl (u_2.2 1))), ((u_2.1 2), .inl (C 1, 600, .inl (u_2.2 2))), ((u_2.1 3), .inl (C 0, 600, .inl (u_2.2 3))), ((u_2.1 4), .inl (C 0, 600, .inl (u_2.2 4))), ((u_2.1 5), .inl (C 0, 600, .inl (u_2.2 5))), ((u_2.1 6), .inl (C 0, 600, .inl (u_2.2 6))), ((u_2.1 7), .inl (C 0, 5999, .inl (u_2.2 7))), ((u_2.1 8), .inl (C 0, 5999, .inl (u_2.2 8))), ((u_2.1 9), .inl (C 0, 5999, .inl (u_2.2 9))), ((u_2.1 10), .inl (C 0, 5999, .inl (u_2.2 10))), ((u_2.1 11), .inl (C 0, 5999, .inl (u_2.2 11))), (q_3, .inr (1, [.ref (u_4.1 0)]))] := hD
  refine lv_aload_n hx hb dX5_init_26 rfl (lv_at hl 0 rfl) ?_
  refine va_new (ci := 2) (fs := [.null, .null, .int 0]) (C := RX2) (T := TX2) (N := 3) hx hb ht inX2 tyX2 tyX2_ok hown (ht _ m_329) (ht _ m_330) (ht _ m_227) hK hP hD hS hA rfl (fun j hj => nfX2 j hj) (by decide) (by decide) dX5_init_27 (fun q_5 H hP hD hS => ?_)
  refine W.widen (k := 221) (n := 35443) (by decide) (by decide) ?_
  have hP : va_P D vwCl [(h0, .inr (5, [.ref q_1, .ref q_3, .null, .null, .null, .null, .null, .int 0, .int 0, .int 0, .int 0, .int 0])), (q_1, .inr (3, [.ref (u_2.1 0), .ref (u_2.1 1), .ref (u_2.1 2), .ref (u_2.1 3), .ref (u_2.1 4), .ref (u_2.1 5), .ref (u_2.1 6), .int 0, .ref (u_2.1 7), .ref (u_2.1 8), .ref (u_2.1 9), .ref (u_2.1 10), .ref (u_2.1 11), .int 0])), ((u_2.1 0), .inl (C 0, 600, .inl (u_2.2 0))), ((u_2.1 1), .inl (C 0, 600, .inl (u_2.2 1))), ((u_2.1 2), .inl (C 1, 600, .inl (u_2.2 2))), ((u_2.1 3), .inl (C 0, 600, .inl (u_2.2 3))), ((u_2.1 4), .inl (C 0, 600, .inl (u_2.2 4))), ((u_2.1 5), .inl (C 0, 600, .inl (u_2.2 5))), ((u_2.1 6), .inl (C 0, 600, .inl (u_2.2 6))), ((u_2.1 7), .inl (C 0, 5999, .inl (u_2.2 7))), ((u_2.1 8), .inl (C 0, 5999, .inl (u_2.2 8))), ((u_2.1 9), .inl (C 0, 5999, .inl (u_2.2 9))), ((u_2.1 10), .inl (C 0, 5999, .inl (u_2.2 10))), ((u_2.1 11), .inl (C 0, 5999, .inl (u_2.2 11))), (q_3, .inr (1, [.ref (u_4.1 0)])), (q_5, .inr (2, [.null, .null, .int 0]))] H := hP
  have hD : va_D A [(h0, .inr (5, [.ref q_1, .ref q_3, .null, .null, .null, .null, .null, .int 0, .int 0, .int 0, .int 0, .int 0])), (q_1, .inr (3, [.ref (u_2.1 0), .ref (u_2.1 1), .ref (u_2.1 2), .ref (u_2.1 3), .ref (u_2.1 4), .ref (u_2.1 5), .ref (u_2.1 6), .int 0, .ref (u_2.1 7), .ref (u_2.1 8), .ref (u_2.1 9), .ref (u_2.1 10), .ref (u_2.1 11), .int 0])), ((u_2.1 0), .inl (C 0, 600, .inl (u_2.2 0))), ((u_2.1 1), .inl (C 0, 600, .inl (u_2.2 1))), ((u_2.1 2), .inl (C 1, 600, .inl (u_2.2 2))), ((u_2.1 3), .inl (C 0, 600, .inl (u_2.2 3))), ((u_2.1 4), .inl (C 0, 600, .inl (u_2.2 4))), ((u_2.1 5), .inl (C 0, 600, .inl (u_2.2 5))), ((u_2.1 6), .inl (C 0, 600, .inl (u_2.2 6))), ((u_2.1 7), .inl (C 0, 5999, .inl (u_2.2 7))), ((u_2.1 8), .inl (C 0, 5999, .inl (u_2.2 8))), ((u_2.1 9), .inl (C 0, 5999, .inl (u_2.2 9))), ((u_2.1 10), .inl (C 0, 5999, .inl (u_2.2 10))), ((u_2.1 11), .inl (C 0, 5999, .inl (u_2.2 11))), (q_3, .inr (1, [.ref (u_4.1 0)])), (q_5, .inr (2, [.null, .null, .int 0]))] := hD
  refine lv_dup hx hb dX5_init_30 rfl ?_
  have hPc := hP.sub (ws' := [(q_5, .inr (2, [.null, .null, .int 0]))]) [15] rfl
  have hDc := hD.sub (ws' := [(q_5, .inr (2, [.null, .null, .int 0]))]) [15] (by decide) rfl
  have hFc := va_free (wc := [(q_5, .inr (2, [.null, .null, .int 0]))]) hD hS hA [15] rfl
  refine va_callv (va_runIN (host := "ObjectRules") (As := []) (rest := [.ref q_5, .ref h0]) ⟨hx, hb, hml, hown, ht⟩ (k2_init l D C b0 H.size q_5) ⟨va_cnB 0 ht (xg_c m_153) rfl rfl rfl (hE.nw (by decide +kernel)) (ht _ m_227) (by decide +kernel) ⟨Nat.le_of_ble_eq_true rfl, Nat.le_of_ble_eq_true rfl⟩, rfl, ht _ m_331⟩ ⟨xPc_bl, xPc_at hPc hK hDc hE hS hAb⟩ rfl rfl hl.1 rfl (lv_room (Nat.le_of_ble_eq_true rfl)) dX5_init_31 ⟨(by decide), (by decide)⟩) hS (fun q _ h => hFc q h) hFc (fun u_6 t H1 locs ht1 hvm hw hB hz1 hk1 hS => ?_)
  obtain ⟨hP1, hD1⟩ := hB
  rw [ht1] at hP1
  try dsimp only at hw
  obtain ⟨hP, hD⟩ := va_join (wr := [(h0, .inr (5, [.ref q_1, .ref q_3, .null, .null, .null, .null, .null, .int 0, .int 0, .int 0, .int 0, .int 0])), (q_1, .inr (3, [.ref (u_2.1 0), .ref (u_2.1 1), .ref (u_2.1 2), .ref (u_2.1 3), .ref (u_2.1 4), .ref (u_2.1 5), .ref (u_2.1 6), .int 0, .ref (u_2.1 7), .ref (u_2.1 8), .ref (u_2.1 9), .ref (u_2.1 10), .ref (u_2.1 11), .int 0])), ((u_2.1 0), .inl (C 0, 600, .inl (u_2.2 0))), ((u_2.1 1), .inl (C 0, 600, .inl (u_2.2 1))), ((u_2.1 2), .inl (C 1, 600, .inl (u_2.2 2))), ((u_2.1 3), .inl (C 0, 600, .inl (u_2.2 3))), ((u_2.1 4), .inl (C 0, 600, .inl (u_2.2 4))), ((u_2.1 5), .inl (C 0, 600, .inl (u_2.2 5))), ((u_2.1 6), .inl (C 0, 600, .inl (u_2.2 6))), ((u_2.1 7), .inl (C 0, 5999, .inl (u_2.2 7))), ((u_2.1 8), .inl (C 0, 5999, .inl (u_2.2 8))), ((u_2.1 9), .inl (C 0, 5999, .inl (u_2.2 9))), ((u_2.1 10), .inl (C 0, 5999, .inl (u_2.2 10))), ((u_2.1 11), .inl (C 0, 5999, .inl (u_2.2 11))), (q_3, .inr (1, [.ref (u_4.1 0)]))]) (w1 := [(q_5, .inr (2, [.ref (u_6.1 0), .ref (u_6.1 1), .int 0]))]) hP hD [15] [0, 1, 2, 3, 4, 5, 6, 7, 8, 9, 10, 11, 12, 13, 14] rfl rfl (by decide) (by decide) hk1 hFc hP1 hD1
  generalize H1 = H at hP hS ⊢
  have hP : va_P D vwCl [(h0, .inr (5, [.ref q_1, .ref q_3, .null, .null, .null, .null, .null, .int 0, .int 0, .int 0, .int 0, .int 0])), (q_1, .inr (3, [.ref (u_2.1 0), .ref (u_2.1 1), .ref (u_2.1 2), .ref (u_2.1 3), .ref (u_2.1 4), .ref (u_2.1 5), .ref (u_2.1 6), .int 0, .ref (u_2.1 7), .ref (u_2.1 8), .ref (u_2.1 9), .ref (u_2.1 10), .ref (u_2.1 11), .int 0])), ((u_2.1 0), .inl (C 0, 600, .inl (u_2.2 0))), ((u_2.1 1), .inl (C 0, 600, .inl (u_2.2 1))), ((u_2.1 2), .inl (C 1, 600, .inl (u_2.2 2))), ((u_2.1 3), .inl (C 0, 600, .inl (u_2.2 3))), ((u_2.1 4), .inl (C 0, 600, .inl (u_2.2 4))), ((u_2.1 5), .inl (C 0, 600, .inl (u_2.2 5))), ((u_2.1 6), .inl (C 0, 600, .inl (u_2.2 6))), ((u_2.1 7), .inl (C 0, 5999, .inl (u_2.2 7))), ((u_2.1 8), .inl (C 0, 5999, .inl (u_2.2 8))), ((u_2.1 9), .inl (C 0, 5999, .inl (u_2.2 9))), ((u_2.1 10), .inl (C 0, 5999, .inl (u_2.2 10))), ((u_2.1 11), .inl (C 0, 5999, .inl (u_2.2 11))), (q_3, .inr (1, [.ref (u_4.1 0)])), (q_5, .inr (2, [.ref (u_6.1 0), .ref (u_6.1 1), .int 0]))] H := hP
  have hD : va_D A [(h0, .inr (5, [.ref q_1, .ref q_3, .null, .null, .null, .null, .null, .int 0, .int 0, .int 0, .int 0, .int 0])), (q_1, .inr (3, [.ref (u_2.1 0), .ref (u_2.1 1), .ref (u_2.1 2), .ref (u_2.1 3), .ref (u_2.1 4), .ref (u_2.1 5), .ref (u_2.1 6), .int 0, .ref (u_2.1 7), .ref (u_2.1 8), .ref (u_2.1 9), .ref (u_2.1 10), .ref (u_2.1 11), .int 0])), ((u_2.1 0), .inl (C 0, 600, .inl (u_2.2 0))), ((u_2.1 1), .inl (C 0, 600, .inl (u_2.2 1))), ((u_2.1 2), .inl (C 1, 600, .inl (u_2.2 2))), ((u_2.1 3), .inl (C 0, 600, .inl (u_2.2 3))), ((u_2.1 4), .inl (C 0, 600, .inl (u_2.2 4))), ((u_2.1 5), .inl (C 0, 600, .inl (u_2.2 5))), ((u_2.1 6), .inl (C 0, 600, .inl (u_2.2 6))), ((u_2.1 7), .inl (C 0, 5999, .inl (u_2.2 7))), ((u_2.1 8), .inl (C 0, 5999, .inl (u_2.2 8))), ((u_2.1 9), .inl (C 0, 5999, .inl (u_2.2 9))), ((u_2.1 10), .inl (C 0, 5999, .inl (u_2.2 10))), ((u_2.1 11), .inl (C 0, 5999, .inl (u_2.2 11))), (q_3, .inr (1, [.ref (u_4.1 0)])), (q_5, .inr (2, [.ref (u_6.1 0), .ref (u_6.1 1), .int 0]))] := hD
  have hq_31 := hw
  refine W.widen (k := 223) (n := 45984) (by decide) (by decide) ?_
  refine va_putF (D := D) (ci := 5) (v := .ref q_5) (ty := tyX5 2) (C := RX5) (T := TX5) (N := 12) hx hb ht inX5 tyX5 tyX5_ok nmX5 hown hK hP hD hS 0 rfl rfl 2 (by decide) (ht _ m_223) (fun _ h9 => h9) rfl hin rfl (by decide +kernel) rfl rfl (Nat.le_of_ble_eq_true rfl) dX5_init_34 (fun H locs hP hD hS => ?_)
  have hP : va_P D vwCl [(h0, .inr (5, [.ref q_1, .ref q_3, .ref q_5, .null, .null, .null, .null, .int 0, .int 0, .int 0, .int 0, .int 0])), (q_1, .inr (3, [.ref (u_2.1 0), .ref (u_2.1 1), .ref (u_2.1 2), .ref (u_2.1 3), .ref (u_2.1 4), .ref (u_2.1 5), .ref (u_2.1 6), .int 0, .ref (u_2.1 7), .ref (u_2.1 8), .ref (u_2.1 9), .ref (u_2.1 10), .ref (u_2.1 11), .int 0])), ((u_2.1 0), .inl (C 0, 600, .inl (u_2.2 0))), ((u_2.1 1), .inl (C 0, 600, .inl (u_2.2 1))), ((u_2.1 2), .inl (C 1, 600, .inl (u_2.2 2))), ((u_2.1 3), .inl (C 0, 600, .inl (u_2.2 3))), ((u_2.1 4), .inl (C 0, 600, .inl (u_2.2 4))), ((u_2.1 5), .inl (C 0, 600, .inl (u_2.2 5))), ((u_2.1 6), .inl (C 0, 600, .inl (u_2.2 6))), ((u_2.1 7), .inl (C 0, 5999, .inl (u_2.2 7))), ((u_2.1 8), .inl (C 0, 5999, .inl (u_2.2 8))), ((u_2.1 9), .inl (C 0, 5999, .inl (u_2.2 9))), ((u_2.1 10), .inl (C 0, 5999, .inl (u_2.2 10))), ((u_2.1 11), .inl (C 0, 5999, .inl (u_2.2 11))), (q_3, .inr (1, [.ref (u_4.1 0)])), (q_5, .inr (2, [.ref (u_6.1 0), .ref (u_6.1 1), .int 0]))] H := hP
  have hD : va_D A [(h0, .inr (5, [.ref q_1, .ref q_3, .ref q_5, .null, .null, .null, .null, .int 0, .int 0, .int 0, .int 0, .int 0])), (q_1, .inr (3, [.ref (u_2.1 0), .ref (u_2.1 1), .ref (u_2.1 2), .ref (u_2.1 3), .ref (u_2.1 4), .ref (u_2.1 5), .ref (u_2.1 6), .int 0, .ref (u_2.1 7), .ref (u_2.1 8), .ref (u_2.1 9), .ref (u_2.1 10), .ref (u_2.1 11), .int 0])), ((u_2.1 0), .inl (C 0, 600, .inl (u_2.2 0))), ((u_2.1 1), .inl (C 0, 600, .inl (u_2.2 1))), ((u_2.1 2), .inl (C 1, 600, .inl (u_2.2 2))), ((u_2.1 3), .inl (C 0, 600, .inl (u_2.2 3))), ((u_2.1 4), .inl (C 0, 600, .inl (u_2.2 4))), ((u_2.1 5), .inl (C 0, 600, .inl (u_2.2 5))), ((u_2.1 6), .inl (C 0, 600, .inl (u_2.2 6))), ((u_2.1 7), .inl (C 0, 5999, .inl (u_2.2 7))), ((u_2.1 8), .inl (C 0, 5999, .inl (u_2.2 8))), ((u_2.1 9), .inl (C 0, 5999, .inl (u_2.2 9))), ((u_2.1 10), .inl (C 0, 5999, .inl (u_2.2 10))), ((u_2.1 11), .inl (C 0, 5999, .inl (u_2.2 11))), (q_3, .inr (1, [.ref (u_4.1 0)])), (q_5, .inr (2, [.ref (u_6.1 0), .ref (u_6.1 1), .int 0]))] := hD
  refine lv_aload_n hx hb dX5_init_37 rfl (lv_at hl 0 rfl) ?_
  refine va_new (ci := 4) (fs := [.null, .null, .int 0]) (C := RX4) (T := TX4) (N := 3) hx hb ht inX4 tyX4 tyX4_ok hown (ht _ m_332) (ht _ m_333) (ht _ m_232) hK hP hD hS hA rfl (fun j hj => nfX4 j hj) (by decide) (by decide) dX5_init_38 (fun q_7 H hP hD hS => ?_)
  refine W.widen (k := 224) (n := 45987) (by decide) (by decide) ?_
  have hP : va_P D vwCl [(h0, .inr (5, [.ref q_1, .ref q_3, .ref q_5, .null, .null, .null, .null, .int 0, .int 0, .int 0, .int 0, .int 0])), (q_1, .inr (3, [.ref (u_2.1 0), .ref (u_2.1 1), .ref (u_2.1 2), .ref (u_2.1 3), .ref (u_2.1 4), .ref (u_2.1 5), .ref (u_2.1 6), .int 0, .ref (u_2.1 7), .ref (u_2.1 8), .ref (u_2.1 9), .ref (u_2.1 10), .ref (u_2.1 11), .int 0])), ((u_2.1 0), .inl (C 0, 600, .inl (u_2.2 0))), ((u_2.1 1), .inl (C 0, 600, .inl (u_2.2 1))), ((u_2.1 2), .inl (C 1, 600, .inl (u_2.2 2))), ((u_2.1 3), .inl (C 0, 600, .inl (u_2.2 3))), ((u_2.1 4), .inl (C 0, 600, .inl (u_2.2 4))), ((u_2.1 5), .inl (C 0, 600, .inl (u_2.2 5))), ((u_2.1 6), .inl (C 0, 600, .inl (u_2.2 6))), ((u_2.1 7), .inl (C 0, 5999, .inl (u_2.2 7))), ((u_2.1 8), .inl (C 0, 5999, .inl (u_2.2 8))), ((u_2.1 9), .inl (C 0, 5999, .inl (u_2.2 9))), ((u_2.1 10), .inl (C 0, 5999, .inl (u_2.2 10))), ((u_2.1 11), .inl (C 0, 5999, .inl (u_2.2 11))), (q_3, .inr (1, [.ref (u_4.1 0)])), (q_5, .inr (2, [.ref (u_6.1 0), .ref (u_6.1 1), .int 0])), (q_7, .inr (4, [.null, .null, .int 0]))] H := hP
  have hD : va_D A [(h0, .inr (5, [.ref q_1, .ref q_3, .ref q_5, .null, .null, .null, .null, .int 0, .int 0, .int 0, .int 0, .int 0])), (q_1, .inr (3, [.ref (u_2.1 0), .ref (u_2.1 1), .ref (u_2.1 2), .ref (u_2.1 3), .ref (u_2.1 4), .ref (u_2.1 5), .ref (u_2.1 6), .int 0, .ref (u_2.1 7), .ref (u_2.1 8), .ref (u_2.1 9), .ref (u_2.1 10), .ref (u_2.1 11), .int 0])), ((u_2.1 0), .inl (C 0, 600, .inl (u_2.2 0))), ((u_2.1 1), .inl (C 0, 600, .inl (u_2.2 1))), ((u_2.1 2), .inl (C 1, 600, .inl (u_2.2 2))), ((u_2.1 3), .inl (C 0, 600, .inl (u_2.2 3))), ((u_2.1 4), .inl (C 0, 600, .inl (u_2.2 4))), ((u_2.1 5), .inl (C 0, 600, .inl (u_2.2 5))), ((u_2.1 6), .inl (C 0, 600, .inl (u_2.2 6))), ((u_2.1 7), .inl (C 0, 5999, .inl (u_2.2 7))), ((u_2.1 8), .inl (C 0, 5999, .inl (u_2.2 8))), ((u_2.1 9), .inl (C 0, 5999, .inl (u_2.2 9))), ((u_2.1 10), .inl (C 0, 5999, .inl (u_2.2 10))), ((u_2.1 11), .inl (C 0, 5999, .inl (u_2.2 11))), (q_3, .inr (1, [.ref (u_4.1 0)])), (q_5, .inr (2, [.ref (u_6.1 0), .ref (u_6.1 1), .int 0])), (q_7, .inr (4, [.null, .null, .int 0]))] := hD
  refine lv_dup hx hb dX5_init_41 rfl ?_
  have hPc := hP.sub (ws' := [(q_7, .inr (4, [.null, .null, .int 0]))]) [16] rfl
  have hDc := hD.sub (ws' := [(q_7, .inr (4, [.null, .null, .int 0]))]) [16] (by decide) rfl
  have hFc := va_free (wc := [(q_7, .inr (4, [.null, .null, .int 0]))]) hD hS hA [16] rfl
  refine va_callv (va_runIN (host := "ObjectRules") (As := []) (rest := [.ref q_7, .ref h0]) ⟨hx, hb, hml, hown, ht⟩ (k4_init l D C b0 H.size q_7) ⟨va_cnB 0 ht (xg_c m_154) rfl rfl rfl (hE.nw (by decide +kernel)) (ht _ m_232) (by decide +kernel) ⟨Nat.le_of_ble_eq_true rfl, Nat.le_of_ble_eq_true rfl⟩, rfl, ht _ m_334⟩ ⟨xPc_bl, xPc_at hPc hK hDc hE hS hAb⟩ rfl rfl hl.1 rfl (lv_room (Nat.le_of_ble_eq_true rfl)) dX5_init_42 ⟨(by decide), (by decide)⟩) hS (fun q _ h => hFc q h) hFc (fun u_8 t H1 locs ht1 hvm hw hB hz1 hk1 hS => ?_)
  obtain ⟨hP1, hD1⟩ := hB
  rw [ht1] at hP1
  try dsimp only at hw
  obtain ⟨hP, hD⟩ := va_join (wr := [(h0, .inr (5, [.ref q_1, .ref q_3, .ref q_5, .null, .null, .null, .null, .int 0, .int 0, .int 0, .int 0, .int 0])), (q_1, .inr (3, [.ref (u_2.1 0), .ref (u_2.1 1), .ref (u_2.1 2), .ref (u_2.1 3), .ref (u_2.1 4), .ref (u_2.1 5), .ref (u_2.1 6), .int 0, .ref (u_2.1 7), .ref (u_2.1 8), .ref (u_2.1 9), .ref (u_2.1 10), .ref (u_2.1 11), .int 0])), ((u_2.1 0), .inl (C 0, 600, .inl (u_2.2 0))), ((u_2.1 1), .inl (C 0, 600, .inl (u_2.2 1))), ((u_2.1 2), .inl (C 1, 600, .inl (u_2.2 2))), ((u_2.1 3), .inl (C 0, 600, .inl (u_2.2 3))), ((u_2.1 4), .inl (C 0, 600, .inl (u_2.2 4))), ((u_2.1 5), .inl (C 0, 600, .inl (u_2.2 5))), ((u_2.1 6), .inl (C 0, 600, .inl (u_2.2 6))), ((u_2.1 7), .inl (C 0, 5999, .inl (u_2.2 7))), ((u_2.1 8), .inl (C 0, 5999, .inl (u_2.2 8))), ((u_2.1 9), .inl (C 0, 5999, .inl (u_2.2 9))), ((u_2.1 10), .inl (C 0, 5999, .inl (u_2.2 10))), ((u_2.1 11), .inl (C 0, 5999, .inl (u_2.2 11))), (q_3, .inr (1, [.ref (u_4.1 0)])), (q_5, .inr (2, [.ref (u_6.1 0), .ref (u_6.1 1), .int 0]))]) (w1 := [(q_7, .inr (4, [.ref (u_8.1 0), .ref (u_8.1 1), .int 1]))]) hP hD [16] [0, 1, 2, 3, 4, 5, 6, 7, 8, 9, 10, 11, 12, 13, 14, 15] rfl rfl (by decide) (by decide) hk1 hFc hP1 hD1
  generalize H1 = H at hP hS ⊢
  have hP : va_P D vwCl [(h0, .inr (5, [.ref q_1, .ref q_3, .ref q_5, .null, .null, .null, .null, .int 0, .int 0, .int 0, .int 0, .int 0])), (q_1, .inr (3, [.ref (u_2.1 0), .ref (u_2.1 1), .ref (u_2.1 2), .ref (u_2.1 3), .ref (u_2.1 4), .ref (u_2.1 5), .ref (u_2.1 6), .int 0, .ref (u_2.1 7), .ref (u_2.1 8), .ref (u_2.1 9), .ref (u_2.1 10), .ref (u_2.1 11), .int 0])), ((u_2.1 0), .inl (C 0, 600, .inl (u_2.2 0))), ((u_2.1 1), .inl (C 0, 600, .inl (u_2.2 1))), ((u_2.1 2), .inl (C 1, 600, .inl (u_2.2 2))), ((u_2.1 3), .inl (C 0, 600, .inl (u_2.2 3))), ((u_2.1 4), .inl (C 0, 600, .inl (u_2.2 4))), ((u_2.1 5), .inl (C 0, 600, .inl (u_2.2 5))), ((u_2.1 6), .inl (C 0, 600, .inl (u_2.2 6))), ((u_2.1 7), .inl (C 0, 5999, .inl (u_2.2 7))), ((u_2.1 8), .inl (C 0, 5999, .inl (u_2.2 8))), ((u_2.1 9), .inl (C 0, 5999, .inl (u_2.2 9))), ((u_2.1 10), .inl (C 0, 5999, .inl (u_2.2 10))), ((u_2.1 11), .inl (C 0, 5999, .inl (u_2.2 11))), (q_3, .inr (1, [.ref (u_4.1 0)])), (q_5, .inr (2, [.ref (u_6.1 0), .ref (u_6.1 1), .int 0])), (q_7, .inr (4, [.ref (u_8.1 0), .ref (u_8.1 1), .int 1]))] H := hP
  have hD : va_D A [(h0, .inr (5, [.ref q_1, .ref q_3, .ref q_5, .null, .null, .null, .null, .int 0, .int 0, .int 0, .int 0, .int 0])), (q_1, .inr (3, [.ref (u_2.1 0), .ref (u_2.1 1), .ref (u_2.1 2), .ref (u_2.1 3), .ref (u_2.1 4), .ref (u_2.1 5), .ref (u_2.1 6), .int 0, .ref (u_2.1 7), .ref (u_2.1 8), .ref (u_2.1 9), .ref (u_2.1 10), .ref (u_2.1 11), .int 0])), ((u_2.1 0), .inl (C 0, 600, .inl (u_2.2 0))), ((u_2.1 1), .inl (C 0, 600, .inl (u_2.2 1))), ((u_2.1 2), .inl (C 1, 600, .inl (u_2.2 2))), ((u_2.1 3), .inl (C 0, 600, .inl (u_2.2 3))), ((u_2.1 4), .inl (C 0, 600, .inl (u_2.2 4))), ((u_2.1 5), .inl (C 0, 600, .inl (u_2.2 5))), ((u_2.1 6), .inl (C 0, 600, .inl (u_2.2 6))), ((u_2.1 7), .inl (C 0, 5999, .inl (u_2.2 7))), ((u_2.1 8), .inl (C 0, 5999, .inl (u_2.2 8))), ((u_2.1 9), .inl (C 0, 5999, .inl (u_2.2 9))), ((u_2.1 10), .inl (C 0, 5999, .inl (u_2.2 10))), ((u_2.1 11), .inl (C 0, 5999, .inl (u_2.2 11))), (q_3, .inr (1, [.ref (u_4.1 0)])), (q_5, .inr (2, [.ref (u_6.1 0), .ref (u_6.1 1), .int 0])), (q_7, .inr (4, [.ref (u_8.1 0), .ref (u_8.1 1), .int 1]))] := hD
  have hq_42 := hw
  refine W.widen (k := 226) (n := 47187) (by decide) (by decide) ?_
  refine va_putF (D := D) (ci := 5) (v := .ref q_7) (ty := tyX5 3) (C := RX5) (T := TX5) (N := 12) hx hb ht inX5 tyX5 tyX5_ok nmX5 hown hK hP hD hS 0 rfl rfl 3 (by decide) (ht _ m_228) (fun _ h9 => h9) rfl hin rfl (by decide +kernel) rfl rfl (Nat.le_of_ble_eq_true rfl) dX5_init_45 (fun H locs hP hD hS => ?_)
  have hP : va_P D vwCl [(h0, .inr (5, [.ref q_1, .ref q_3, .ref q_5, .ref q_7, .null, .null, .null, .int 0, .int 0, .int 0, .int 0, .int 0])), (q_1, .inr (3, [.ref (u_2.1 0), .ref (u_2.1 1), .ref (u_2.1 2), .ref (u_2.1 3), .ref (u_2.1 4), .ref (u_2.1 5), .ref (u_2.1 6), .int 0, .ref (u_2.1 7), .ref (u_2.1 8), .ref (u_2.1 9), .ref (u_2.1 10), .ref (u_2.1 11), .int 0])), ((u_2.1 0), .inl (C 0, 600, .inl (u_2.2 0))), ((u_2.1 1), .inl (C 0, 600, .inl (u_2.2 1))), ((u_2.1 2), .inl (C 1, 600, .inl (u_2.2 2))), ((u_2.1 3), .inl (C 0, 600, .inl (u_2.2 3))), ((u_2.1 4), .inl (C 0, 600, .inl (u_2.2 4))), ((u_2.1 5), .inl (C 0, 600, .inl (u_2.2 5))), ((u_2.1 6), .inl (C 0, 600, .inl (u_2.2 6))), ((u_2.1 7), .inl (C 0, 5999, .inl (u_2.2 7))), ((u_2.1 8), .inl (C 0, 5999, .inl (u_2.2 8))), ((u_2.1 9), .inl (C 0, 5999, .inl (u_2.2 9))), ((u_2.1 10), .inl (C 0, 5999, .inl (u_2.2 10))), ((u_2.1 11), .inl (C 0, 5999, .inl (u_2.2 11))), (q_3, .inr (1, [.ref (u_4.1 0)])), (q_5, .inr (2, [.ref (u_6.1 0), .ref (u_6.1 1), .int 0])), (q_7, .inr (4, [.ref (u_8.1 0), .ref (u_8.1 1), .int 1]))] H := hP
  have hD : va_D A [(h0, .inr (5, [.ref q_1, .ref q_3, .ref q_5, .ref q_7, .null, .null, .null, .int 0, .int 0, .int 0, .int 0, .int 0])), (q_1, .inr (3, [.ref (u_2.1 0), .ref (u_2.1 1), .ref (u_2.1 2), .ref (u_2.1 3), .ref (u_2.1 4), .ref (u_2.1 5), .ref (u_2.1 6), .int 0, .ref (u_2.1 7), .ref (u_2.1 8), .ref (u_2.1 9), .ref (u_2.1 10), .ref (u_2.1 11), .int 0])), ((u_2.1 0), .inl (C 0, 600, .inl (u_2.2 0))), ((u_2.1 1), .inl (C 0, 600, .inl (u_2.2 1))), ((u_2.1 2), .inl (C 1, 600, .inl (u_2.2 2))), ((u_2.1 3), .inl (C 0, 600, .inl (u_2.2 3))), ((u_2.1 4), .inl (C 0, 600, .inl (u_2.2 4))), ((u_2.1 5), .inl (C 0, 600, .inl (u_2.2 5))), ((u_2.1 6), .inl (C 0, 600, .inl (u_2.2 6))), ((u_2.1 7), .inl (C 0, 5999, .inl (u_2.2 7))), ((u_2.1 8), .inl (C 0, 5999, .inl (u_2.2 8))), ((u_2.1 9), .inl (C 0, 5999, .inl (u_2.2 9))), ((u_2.1 10), .inl (C 0, 5999, .inl (u_2.2 10))), ((u_2.1 11), .inl (C 0, 5999, .inl (u_2.2 11))), (q_3, .inr (1, [.ref (u_4.1 0)])), (q_5, .inr (2, [.ref (u_6.1 0), .ref (u_6.1 1), .int 0])), (q_7, .inr (4, [.ref (u_8.1 0), .ref (u_8.1 1), .int 1]))] := hD
  refine lv_aload_n hx hb dX5_init_48 rfl (lv_at hl 0 rfl) ?_
  refine va_new (ci := 0) (fs := [.int 0, .int 0, .int 0, .int 0, .int 0]) (C := RX0) (T := TX0) (N := 5) hx hb ht inX0 tyX0 tyX0_ok hown (ht _ m_335) (ht _ m_315) (ht _ m_316) hK hP hD hS hA rfl (fun j hj => nfX0 j hj) (by decide) (by decide) dX5_init_49 (fun q_9 H hP hD hS => ?_)
  refine W.widen (k := 227) (n := 47192) (by decide) (by decide) ?_
  have hP : va_P D vwCl [(h0, .inr (5, [.ref q_1, .ref q_3, .ref q_5, .ref q_7, .null, .null, .null, .int 0, .int 0, .int 0, .int 0, .int 0])), (q_1, .inr (3, [.ref (u_2.1 0), .ref (u_2.1 1), .ref (u_2.1 2), .ref (u_2.1 3), .ref (u_2.1 4), .ref (u_2.1 5), .ref (u_2.1 6), .int 0, .ref (u_2.1 7), .ref (u_2.1 8), .ref (u_2.1 9), .ref (u_2.1 10), .ref (u_2.1 11), .int 0])), ((u_2.1 0), .inl (C 0, 600, .inl (u_2.2 0))), ((u_2.1 1), .inl (C 0, 600, .inl (u_2.2 1))), ((u_2.1 2), .inl (C 1, 600, .inl (u_2.2 2))), ((u_2.1 3), .inl (C 0, 600, .inl (u_2.2 3))), ((u_2.1 4), .inl (C 0, 600, .inl (u_2.2 4))), ((u_2.1 5), .inl (C 0, 600, .inl (u_2.2 5))), ((u_2.1 6), .inl (C 0, 600, .inl (u_2.2 6))), ((u_2.1 7), .inl (C 0, 5999, .inl (u_2.2 7))), ((u_2.1 8), .inl (C 0, 5999, .inl (u_2.2 8))), ((u_2.1 9), .inl (C 0, 5999, .inl (u_2.2 9))), ((u_2.1 10), .inl (C 0, 5999, .inl (u_2.2 10))), ((u_2.1 11), .inl (C 0, 5999, .inl (u_2.2 11))), (q_3, .inr (1, [.ref (u_4.1 0)])), (q_5, .inr (2, [.ref (u_6.1 0), .ref (u_6.1 1), .int 0])), (q_7, .inr (4, [.ref (u_8.1 0), .ref (u_8.1 1), .int 1])), (q_9, .inr (0, [.int 0, .int 0, .int 0, .int 0, .int 0]))] H := hP
  have hD : va_D A [(h0, .inr (5, [.ref q_1, .ref q_3, .ref q_5, .ref q_7, .null, .null, .null, .int 0, .int 0, .int 0, .int 0, .int 0])), (q_1, .inr (3, [.ref (u_2.1 0), .ref (u_2.1 1), .ref (u_2.1 2), .ref (u_2.1 3), .ref (u_2.1 4), .ref (u_2.1 5), .ref (u_2.1 6), .int 0, .ref (u_2.1 7), .ref (u_2.1 8), .ref (u_2.1 9), .ref (u_2.1 10), .ref (u_2.1 11), .int 0])), ((u_2.1 0), .inl (C 0, 600, .inl (u_2.2 0))), ((u_2.1 1), .inl (C 0, 600, .inl (u_2.2 1))), ((u_2.1 2), .inl (C 1, 600, .inl (u_2.2 2))), ((u_2.1 3), .inl (C 0, 600, .inl (u_2.2 3))), ((u_2.1 4), .inl (C 0, 600, .inl (u_2.2 4))), ((u_2.1 5), .inl (C 0, 600, .inl (u_2.2 5))), ((u_2.1 6), .inl (C 0, 600, .inl (u_2.2 6))), ((u_2.1 7), .inl (C 0, 5999, .inl (u_2.2 7))), ((u_2.1 8), .inl (C 0, 5999, .inl (u_2.2 8))), ((u_2.1 9), .inl (C 0, 5999, .inl (u_2.2 9))), ((u_2.1 10), .inl (C 0, 5999, .inl (u_2.2 10))), ((u_2.1 11), .inl (C 0, 5999, .inl (u_2.2 11))), (q_3, .inr (1, [.ref (u_4.1 0)])), (q_5, .inr (2, [.ref (u_6.1 0), .ref (u_6.1 1), .int 0])), (q_7, .inr (4, [.ref (u_8.1 0), .ref (u_8.1 1), .int 1])), (q_9, .inr (0, [.int 0, .int 0, .int 0, .int 0, .int 0]))] := hD
  refine lv_dup hx hb dX5_init_52 rfl ?_
  have hPc := hP.sub (ws' := [(q_9, .inr (0, [.int 0, .int 0, .int 0, .int 0, .int 0]))]) [17] rfl
  have hDc := hD.sub (ws' := [(q_9, .inr (0, [.int 0, .int 0, .int 0, .int 0, .int 0]))]) [17] (by decide) rfl
  have hFc := va_free (wc := [(q_9, .inr (0, [.int 0, .int 0, .int 0, .int 0, .int 0]))]) hD hS hA [17] rfl
  refine va_callv (va_runIN (host := "ObjectRules") (As := []) (rest := [.ref q_9, .ref h0]) ⟨hx, hb, hml, hown, ht⟩ (k0_init l D C b0 H.size q_9) ⟨va_cnB 0 ht (xg_c m_152) rfl rfl rfl (hE.nw (by decide +kernel)) (ht _ m_316) (by decide +kernel) ⟨Nat.le_of_ble_eq_true rfl, Nat.le_of_ble_eq_true rfl⟩, rfl, ht _ m_317⟩ ⟨xPc_bl, xPc_at hPc hK hDc hE hS hAb⟩ rfl rfl hl.1 rfl (lv_room (Nat.le_of_ble_eq_true rfl)) dX5_init_53 ⟨(by decide), (by decide)⟩) hS (fun q _ h => hFc q h) hFc (fun u_10 t H1 locs ht1 hvm hw hB hz1 hk1 hS => ?_)
  obtain ⟨hP1, hD1⟩ := hB
  rw [ht1] at hP1
  try dsimp only at hw
  obtain ⟨hP, hD⟩ := va_join (wr := [(h0, .inr (5, [.ref q_1, .ref q_3, .ref q_5, .ref q_7, .null, .null, .null, .int 0, .int 0, .int 0, .int 0, .int 0])), (q_1, .inr (3, [.ref (u_2.1 0), .ref (u_2.1 1), .ref (u_2.1 2), .ref (u_2.1 3), .ref (u_2.1 4), .ref (u_2.1 5), .ref (u_2.1 6), .int 0, .ref (u_2.1 7), .ref (u_2.1 8), .ref (u_2.1 9), .ref (u_2.1 10), .ref (u_2.1 11), .int 0])), ((u_2.1 0), .inl (C 0, 600, .inl (u_2.2 0))), ((u_2.1 1), .inl (C 0, 600, .inl (u_2.2 1))), ((u_2.1 2), .inl (C 1, 600, .inl (u_2.2 2))), ((u_2.1 3), .inl (C 0, 600, .inl (u_2.2 3))), ((u_2.1 4), .inl (C 0, 600, .inl (u_2.2 4))), ((u_2.1 5), .inl (C 0, 600, .inl (u_2.2 5))), ((u_2.1 6), .inl (C 0, 600, .inl (u_2.2 6))), ((u_2.1 7), .inl (C 0, 5999, .inl (u_2.2 7))), ((u_2.1 8), .inl (C 0, 5999, .inl (u_2.2 8))), ((u_2.1 9), .inl (C 0, 5999, .inl (u_2.2 9))), ((u_2.1 10), .inl (C 0, 5999, .inl (u_2.2 10))), ((u_2.1 11), .inl (C 0, 5999, .inl (u_2.2 11))), (q_3, .inr (1, [.ref (u_4.1 0)])), (q_5, .inr (2, [.ref (u_6.1 0), .ref (u_6.1 1), .int 0])), (q_7, .inr (4, [.ref (u_8.1 0), .ref (u_8.1 1), .int 1]))]) (w1 := [(q_9, .inr (0, [.int 0, .int 0, .int 0, .int 0, .int 0]))]) hP hD [17] [0, 1, 2, 3, 4, 5, 6, 7, 8, 9, 10, 11, 12, 13, 14, 15, 16] rfl rfl (by decide) (by decide) hk1 hFc hP1 hD1
  generalize H1 = H at hP hS ⊢
  have hP : va_P D vwCl [(h0, .inr (5, [.ref q_1, .ref q_3, .ref q_5, .ref q_7, .null, .null, .null, .int 0, .int 0, .int 0, .int 0, .int 0])), (q_1, .inr (3, [.ref (u_2.1 0), .ref (u_2.1 1), .ref (u_2.1 2), .ref (u_2.1 3), .ref (u_2.1 4), .ref (u_2.1 5), .ref (u_2.1 6), .int 0, .ref (u_2.1 7), .ref (u_2.1 8), .ref (u_2.1 9), .ref (u_2.1 10), .ref (u_2.1 11), .int 0])), ((u_2.1 0), .inl (C 0, 600, .inl (u_2.2 0))), ((u_2.1 1), .inl (C 0, 600, .inl (u_2.2 1))), ((u_2.1 2), .inl (C 1, 600, .inl (u_2.2 2))), ((u_2.1 3), .inl (C 0, 600, .inl (u_2.2 3))), ((u_2.1 4), .inl (C 0, 600, .inl (u_2.2 4))), ((u_2.1 5), .inl (C 0, 600, .inl (u_2.2 5))), ((u_2.1 6), .inl (C 0, 600, .inl (u_2.2 6))), ((u_2.1 7), .inl (C 0, 5999, .inl (u_2.2 7))), ((u_2.1 8), .inl (C 0, 5999, .inl (u_2.2 8))), ((u_2.1 9), .inl (C 0, 5999, .inl (u_2.2 9))), ((u_2.1 10), .inl (C 0, 5999, .inl (u_2.2 10))), ((u_2.1 11), .inl (C 0, 5999, .inl (u_2.2 11))), (q_3, .inr (1, [.ref (u_4.1 0)])), (q_5, .inr (2, [.ref (u_6.1 0), .ref (u_6.1 1), .int 0])), (q_7, .inr (4, [.ref (u_8.1 0), .ref (u_8.1 1), .int 1])), (q_9, .inr (0, [.int 0, .int 0, .int 0, .int 0, .int 0]))] H := hP
  have hD : va_D A [(h0, .inr (5, [.ref q_1, .ref q_3, .ref q_5, .ref q_7, .null, .null, .null, .int 0, .int 0, .int 0, .int 0, .int 0])), (q_1, .inr (3, [.ref (u_2.1 0), .ref (u_2.1 1), .ref (u_2.1 2), .ref (u_2.1 3), .ref (u_2.1 4), .ref (u_2.1 5), .ref (u_2.1 6), .int 0, .ref (u_2.1 7), .ref (u_2.1 8), .ref (u_2.1 9), .ref (u_2.1 10), .ref (u_2.1 11), .int 0])), ((u_2.1 0), .inl (C 0, 600, .inl (u_2.2 0))), ((u_2.1 1), .inl (C 0, 600, .inl (u_2.2 1))), ((u_2.1 2), .inl (C 1, 600, .inl (u_2.2 2))), ((u_2.1 3), .inl (C 0, 600, .inl (u_2.2 3))), ((u_2.1 4), .inl (C 0, 600, .inl (u_2.2 4))), ((u_2.1 5), .inl (C 0, 600, .inl (u_2.2 5))), ((u_2.1 6), .inl (C 0, 600, .inl (u_2.2 6))), ((u_2.1 7), .inl (C 0, 5999, .inl (u_2.2 7))), ((u_2.1 8), .inl (C 0, 5999, .inl (u_2.2 8))), ((u_2.1 9), .inl (C 0, 5999, .inl (u_2.2 9))), ((u_2.1 10), .inl (C 0, 5999, .inl (u_2.2 10))), ((u_2.1 11), .inl (C 0, 5999, .inl (u_2.2 11))), (q_3, .inr (1, [.ref (u_4.1 0)])), (q_5, .inr (2, [.ref (u_6.1 0), .ref (u_6.1 1), .int 0])), (q_7, .inr (4, [.ref (u_8.1 0), .ref (u_8.1 1), .int 1])), (q_9, .inr (0, [.int 0, .int 0, .int 0, .int 0, .int 0]))] := hD
  have hq_53 := hw
  refine va_putF (D := D) (ci := 5) (v := .ref q_9) (ty := tyX5 4) (C := RX5) (T := TX5) (N := 12) hx hb ht inX5 tyX5 tyX5_ok nmX5 hown hK hP hD hS 0 rfl rfl 4 (by decide) (ht _ m_336) (fun _ h9 => h9) rfl hin rfl (by decide +kernel) rfl rfl (Nat.le_of_ble_eq_true rfl) dX5_init_56 (fun H locs hP hD hS => ?_)
  have hP : va_P D vwCl [(h0, .inr (5, [.ref q_1, .ref q_3, .ref q_5, .ref q_7, .ref q_9, .null, .null, .int 0, .int 0, .int 0, .int 0, .int 0])), (q_1, .inr (3, [.ref (u_2.1 0), .ref (u_2.1 1), .ref (u_2.1 2), .ref (u_2.1 3), .ref (u_2.1 4), .ref (u_2.1 5), .ref (u_2.1 6), .int 0, .ref (u_2.1 7), .ref (u_2.1 8), .ref (u_2.1 9), .ref (u_2.1 10), .ref (u_2.1 11), .int 0])), ((u_2.1 0), .inl (C 0, 600, .inl (u_2.2 0))), ((u_2.1 1), .inl (C 0, 600, .inl (u_2.2 1))), ((u_2.1 2), .inl (C 1, 600, .inl (u_2.2 2))), ((u_2.1 3), .inl (C 0, 600, .inl (u_2.2 3))), ((u_2.1 4), .inl (C 0, 600, .inl (u_2.2 4))), ((u_2.1 5), .inl (C 0, 600, .inl (u_2.2 5))), ((u_2.1 6), .inl (C 0, 600, .inl (u_2.2 6))), ((u_2.1 7), .inl (C 0, 5999, .inl (u_2.2 7))), ((u_2.1 8), .inl (C 0, 5999, .inl (u_2.2 8))), ((u_2.1 9), .inl (C 0, 5999, .inl (u_2.2 9))), ((u_2.1 10), .inl (C 0, 5999, .inl (u_2.2 10))), ((u_2.1 11), .inl (C 0, 5999, .inl (u_2.2 11))), (q_3, .inr (1, [.ref (u_4.1 0)])), (q_5, .inr (2, [.ref (u_6.1 0), .ref (u_6.1 1), .int 0])), (q_7, .inr (4, [.ref (u_8.1 0), .ref (u_8.1 1), .int 1])), (q_9, .inr (0, [.int 0, .int 0, .int 0, .int 0, .int 0]))] H := hP
  have hD : va_D A [(h0, .inr (5, [.ref q_1, .ref q_3, .ref q_5, .ref q_7, .ref q_9, .null, .null, .int 0, .int 0, .int 0, .int 0, .int 0])), (q_1, .inr (3, [.ref (u_2.1 0), .ref (u_2.1 1), .ref (u_2.1 2), .ref (u_2.1 3), .ref (u_2.1 4), .ref (u_2.1 5), .ref (u_2.1 6), .int 0, .ref (u_2.1 7), .ref (u_2.1 8), .ref (u_2.1 9), .ref (u_2.1 10), .ref (u_2.1 11), .int 0])), ((u_2.1 0), .inl (C 0, 600, .inl (u_2.2 0))), ((u_2.1 1), .inl (C 0, 600, .inl (u_2.2 1))), ((u_2.1 2), .inl (C 1, 600, .inl (u_2.2 2))), ((u_2.1 3), .inl (C 0, 600, .inl (u_2.2 3))), ((u_2.1 4), .inl (C 0, 600, .inl (u_2.2 4))), ((u_2.1 5), .inl (C 0, 600, .inl (u_2.2 5))), ((u_2.1 6), .inl (C 0, 600, .inl (u_2.2 6))), ((u_2.1 7), .inl (C 0, 5999, .inl (u_2.2 7))), ((u_2.1 8), .inl (C 0, 5999, .inl (u_2.2 8))), ((u_2.1 9), .inl (C 0, 5999, .inl (u_2.2 9))), ((u_2.1 10), .inl (C 0, 5999, .inl (u_2.2 10))), ((u_2.1 11), .inl (C 0, 5999, .inl (u_2.2 11))), (q_3, .inr (1, [.ref (u_4.1 0)])), (q_5, .inr (2, [.ref (u_6.1 0), .ref (u_6.1 1), .int 0])), (q_7, .inr (4, [.ref (u_8.1 0), .ref (u_8.1 1), .int 1])), (q_9, .inr (0, [.int 0, .int 0, .int 0, .int 0, .int 0]))] := hD
  refine lv_aload_n hx hb dX5_init_59 rfl (lv_at hl 0 rfl) ?_
  refine lv_sipush (v := 250) hx hb dX5_init_60 (by decide) ?_
  refine va_newa (atype := .int) (ty := .int) (N' := 250) (a0 := (250, .inl (fun _ => 0))) hx hb (ht _ m_205) rfl hK hP hD hS hA (fun _ => rfl) (by decide) (by decide) (by decide) (by decide) (by decide) dX5_init_63 (fun q_11 cA H hK9 hP hD hS => ?_)
  obtain rfl := x_tyI hK9
  refine W.widen (k := 228) (n := 47442) (by decide) (by decide) ?_
  have hP : va_P D vwCl [(h0, .inr (5, [.ref q_1, .ref q_3, .ref q_5, .ref q_7, .ref q_9, .null, .null, .int 0, .int 0, .int 0, .int 0, .int 0])), (q_1, .inr (3, [.ref (u_2.1 0), .ref (u_2.1 1), .ref (u_2.1 2), .ref (u_2.1 3), .ref (u_2.1 4), .ref (u_2.1 5), .ref (u_2.1 6), .int 0, .ref (u_2.1 7), .ref (u_2.1 8), .ref (u_2.1 9), .ref (u_2.1 10), .ref (u_2.1 11), .int 0])), ((u_2.1 0), .inl (C 0, 600, .inl (u_2.2 0))), ((u_2.1 1), .inl (C 0, 600, .inl (u_2.2 1))), ((u_2.1 2), .inl (C 1, 600, .inl (u_2.2 2))), ((u_2.1 3), .inl (C 0, 600, .inl (u_2.2 3))), ((u_2.1 4), .inl (C 0, 600, .inl (u_2.2 4))), ((u_2.1 5), .inl (C 0, 600, .inl (u_2.2 5))), ((u_2.1 6), .inl (C 0, 600, .inl (u_2.2 6))), ((u_2.1 7), .inl (C 0, 5999, .inl (u_2.2 7))), ((u_2.1 8), .inl (C 0, 5999, .inl (u_2.2 8))), ((u_2.1 9), .inl (C 0, 5999, .inl (u_2.2 9))), ((u_2.1 10), .inl (C 0, 5999, .inl (u_2.2 10))), ((u_2.1 11), .inl (C 0, 5999, .inl (u_2.2 11))), (q_3, .inr (1, [.ref (u_4.1 0)])), (q_5, .inr (2, [.ref (u_6.1 0), .ref (u_6.1 1), .int 0])), (q_7, .inr (4, [.ref (u_8.1 0), .ref (u_8.1 1), .int 1])), (q_9, .inr (0, [.int 0, .int 0, .int 0, .int 0, .int 0])), (q_11, .inl (C 0, 250, .inl (fun _ => 0)))] H := hP
  have hD : va_D A [(h0, .inr (5, [.ref q_1, .ref q_3, .ref q_5, .ref q_7, .ref q_9, .null, .null, .int 0, .int 0, .int 0, .int 0, .int 0])), (q_1, .inr (3, [.ref (u_2.1 0), .ref (u_2.1 1), .ref (u_2.1 2), .ref (u_2.1 3), .ref (u_2.1 4), .ref (u_2.1 5), .ref (u_2.1 6), .int 0, .ref (u_2.1 7), .ref (u_2.1 8), .ref (u_2.1 9), .ref (u_2.1 10), .ref (u_2.1 11), .int 0])), ((u_2.1 0), .inl (C 0, 600, .inl (u_2.2 0))), ((u_2.1 1), .inl (C 0, 600, .inl (u_2.2 1))), ((u_2.1 2), .inl (C 1, 600, .inl (u_2.2 2))), ((u_2.1 3), .inl (C 0, 600, .inl (u_2.2 3))), ((u_2.1 4), .inl (C 0, 600, .inl (u_2.2 4))), ((u_2.1 5), .inl (C 0, 600, .inl (u_2.2 5))), ((u_2.1 6), .inl (C 0, 600, .inl (u_2.2 6))), ((u_2.1 7), .inl (C 0, 5999, .inl (u_2.2 7))), ((u_2.1 8), .inl (C 0, 5999, .inl (u_2.2 8))), ((u_2.1 9), .inl (C 0, 5999, .inl (u_2.2 9))), ((u_2.1 10), .inl (C 0, 5999, .inl (u_2.2 10))), ((u_2.1 11), .inl (C 0, 5999, .inl (u_2.2 11))), (q_3, .inr (1, [.ref (u_4.1 0)])), (q_5, .inr (2, [.ref (u_6.1 0), .ref (u_6.1 1), .int 0])), (q_7, .inr (4, [.ref (u_8.1 0), .ref (u_8.1 1), .int 1])), (q_9, .inr (0, [.int 0, .int 0, .int 0, .int 0, .int 0])), (q_11, .inl (C 0, 250, .inl (fun _ => 0)))] := hD
  refine va_putF (D := D) (ci := 5) (v := .ref q_11) (ty := tyX5 5) (C := RX5) (T := TX5) (N := 12) hx hb ht inX5 tyX5 tyX5_ok nmX5 hown hK hP hD hS 0 rfl rfl 5 (by decide) (ht _ m_337) (fun _ h9 => h9) rfl hin rfl (by decide +kernel) rfl rfl (Nat.le_of_ble_eq_true rfl) dX5_init_65 (fun H locs hP hD hS => ?_)
  have hP : va_P D vwCl [(h0, .inr (5, [.ref q_1, .ref q_3, .ref q_5, .ref q_7, .ref q_9, .ref q_11, .null, .int 0, .int 0, .int 0, .int 0, .int 0])), (q_1, .inr (3, [.ref (u_2.1 0), .ref (u_2.1 1), .ref (u_2.1 2), .ref (u_2.1 3), .ref (u_2.1 4), .ref (u_2.1 5), .ref (u_2.1 6), .int 0, .ref (u_2.1 7), .ref (u_2.1 8), .ref (u_2.1 9), .ref (u_2.1 10), .ref (u_2.1 11), .int 0])), ((u_2.1 0), .inl (C 0, 600, .inl (u_2.2 0))), ((u_2.1 1), .inl (C 0, 600, .inl (u_2.2 1))), ((u_2.1 2), .inl (C 1, 600, .inl (u_2.2 2))), ((u_2.1 3), .inl (C 0, 600, .inl (u_2.2 3))), ((u_2.1 4), .inl (C 0, 600, .inl (u_2.2 4))), ((u_2.1 5), .inl (C 0, 600, .inl (u_2.2 5))), ((u_2.1 6), .inl (C 0, 600, .inl (u_2.2 6))), ((u_2.1 7), .inl (C 0, 5999, .inl (u_2.2 7))), ((u_2.1 8), .inl (C 0, 5999, .inl (u_2.2 8))), ((u_2.1 9), .inl (C 0, 5999, .inl (u_2.2 9))), ((u_2.1 10), .inl (C 0, 5999, .inl (u_2.2 10))), ((u_2.1 11), .inl (C 0, 5999, .inl (u_2.2 11))), (q_3, .inr (1, [.ref (u_4.1 0)])), (q_5, .inr (2, [.ref (u_6.1 0), .ref (u_6.1 1), .int 0])), (q_7, .inr (4, [.ref (u_8.1 0), .ref (u_8.1 1), .int 1])), (q_9, .inr (0, [.int 0, .int 0, .int 0, .int 0, .int 0])), (q_11, .inl (C 0, 250, .inl (fun _ => 0)))] H := hP
  have hD : va_D A [(h0, .inr (5, [.ref q_1, .ref q_3, .ref q_5, .ref q_7, .ref q_9, .ref q_11, .null, .int 0, .int 0, .int 0, .int 0, .int 0])), (q_1, .inr (3, [.ref (u_2.1 0), .ref (u_2.1 1), .ref (u_2.1 2), .ref (u_2.1 3), .ref (u_2.1 4), .ref (u_2.1 5), .ref (u_2.1 6), .int 0, .ref (u_2.1 7), .ref (u_2.1 8), .ref (u_2.1 9), .ref (u_2.1 10), .ref (u_2.1 11), .int 0])), ((u_2.1 0), .inl (C 0, 600, .inl (u_2.2 0))), ((u_2.1 1), .inl (C 0, 600, .inl (u_2.2 1))), ((u_2.1 2), .inl (C 1, 600, .inl (u_2.2 2))), ((u_2.1 3), .inl (C 0, 600, .inl (u_2.2 3))), ((u_2.1 4), .inl (C 0, 600, .inl (u_2.2 4))), ((u_2.1 5), .inl (C 0, 600, .inl (u_2.2 5))), ((u_2.1 6), .inl (C 0, 600, .inl (u_2.2 6))), ((u_2.1 7), .inl (C 0, 5999, .inl (u_2.2 7))), ((u_2.1 8), .inl (C 0, 5999, .inl (u_2.2 8))), ((u_2.1 9), .inl (C 0, 5999, .inl (u_2.2 9))), ((u_2.1 10), .inl (C 0, 5999, .inl (u_2.2 10))), ((u_2.1 11), .inl (C 0, 5999, .inl (u_2.2 11))), (q_3, .inr (1, [.ref (u_4.1 0)])), (q_5, .inr (2, [.ref (u_6.1 0), .ref (u_6.1 1), .int 0])), (q_7, .inr (4, [.ref (u_8.1 0), .ref (u_8.1 1), .int 1])), (q_9, .inr (0, [.int 0, .int 0, .int 0, .int 0, .int 0])), (q_11, .inl (C 0, 250, .inl (fun _ => 0)))] := hD
  refine lv_aload_n hx hb dX5_init_68 rfl (lv_at hl 0 rfl) ?_
  refine lv_sipush (v := 2000) hx hb dX5_init_69 (by decide) ?_
  refine va_newa (atype := .int) (ty := .int) (N' := 2000) (a0 := (2000, .inl (fun _ => 0))) hx hb (ht _ m_205) rfl hK hP hD hS hA (fun _ => rfl) (by decide) (by decide) (by decide) (by decide) (by decide) dX5_init_72 (fun q_12 cA H hK9 hP hD hS => ?_)
  obtain rfl := x_tyI hK9
  refine W.widen (k := 229) (n := 49442) (by decide) (by decide) ?_
  have hP : va_P D vwCl [(h0, .inr (5, [.ref q_1, .ref q_3, .ref q_5, .ref q_7, .ref q_9, .ref q_11, .null, .int 0, .int 0, .int 0, .int 0, .int 0])), (q_1, .inr (3, [.ref (u_2.1 0), .ref (u_2.1 1), .ref (u_2.1 2), .ref (u_2.1 3), .ref (u_2.1 4), .ref (u_2.1 5), .ref (u_2.1 6), .int 0, .ref (u_2.1 7), .ref (u_2.1 8), .ref (u_2.1 9), .ref (u_2.1 10), .ref (u_2.1 11), .int 0])), ((u_2.1 0), .inl (C 0, 600, .inl (u_2.2 0))), ((u_2.1 1), .inl (C 0, 600, .inl (u_2.2 1))), ((u_2.1 2), .inl (C 1, 600, .inl (u_2.2 2))), ((u_2.1 3), .inl (C 0, 600, .inl (u_2.2 3))), ((u_2.1 4), .inl (C 0, 600, .inl (u_2.2 4))), ((u_2.1 5), .inl (C 0, 600, .inl (u_2.2 5))), ((u_2.1 6), .inl (C 0, 600, .inl (u_2.2 6))), ((u_2.1 7), .inl (C 0, 5999, .inl (u_2.2 7))), ((u_2.1 8), .inl (C 0, 5999, .inl (u_2.2 8))), ((u_2.1 9), .inl (C 0, 5999, .inl (u_2.2 9))), ((u_2.1 10), .inl (C 0, 5999, .inl (u_2.2 10))), ((u_2.1 11), .inl (C 0, 5999, .inl (u_2.2 11))), (q_3, .inr (1, [.ref (u_4.1 0)])), (q_5, .inr (2, [.ref (u_6.1 0), .ref (u_6.1 1), .int 0])), (q_7, .inr (4, [.ref (u_8.1 0), .ref (u_8.1 1), .int 1])), (q_9, .inr (0, [.int 0, .int 0, .int 0, .int 0, .int 0])), (q_11, .inl (C 0, 250, .inl (fun _ => 0))), (q_12, .inl (C 0, 2000, .inl (fun _ => 0)))] H := hP
  have hD : va_D A [(h0, .inr (5, [.ref q_1, .ref q_3, .ref q_5, .ref q_7, .ref q_9, .ref q_11, .null, .int 0, .int 0, .int 0, .int 0, .int 0])), (q_1, .inr (3, [.ref (u_2.1 0), .ref (u_2.1 1), .ref (u_2.1 2), .ref (u_2.1 3), .ref (u_2.1 4), .ref (u_2.1 5), .ref (u_2.1 6), .int 0, .ref (u_2.1 7), .ref (u_2.1 8), .ref (u_2.1 9), .ref (u_2.1 10), .ref (u_2.1 11), .int 0])), ((u_2.1 0), .inl (C 0, 600, .inl (u_2.2 0))), ((u_2.1 1), .inl (C 0, 600, .inl (u_2.2 1))), ((u_2.1 2), .inl (C 1, 600, .inl (u_2.2 2))), ((u_2.1 3), .inl (C 0, 600, .inl (u_2.2 3))), ((u_2.1 4), .inl (C 0, 600, .inl (u_2.2 4))), ((u_2.1 5), .inl (C 0, 600, .inl (u_2.2 5))), ((u_2.1 6), .inl (C 0, 600, .inl (u_2.2 6))), ((u_2.1 7), .inl (C 0, 5999, .inl (u_2.2 7))), ((u_2.1 8), .inl (C 0, 5999, .inl (u_2.2 8))), ((u_2.1 9), .inl (C 0, 5999, .inl (u_2.2 9))), ((u_2.1 10), .inl (C 0, 5999, .inl (u_2.2 10))), ((u_2.1 11), .inl (C 0, 5999, .inl (u_2.2 11))), (q_3, .inr (1, [.ref (u_4.1 0)])), (q_5, .inr (2, [.ref (u_6.1 0), .ref (u_6.1 1), .int 0])), (q_7, .inr (4, [.ref (u_8.1 0), .ref (u_8.1 1), .int 1])), (q_9, .inr (0, [.int 0, .int 0, .int 0, .int 0, .int 0])), (q_11, .inl (C 0, 250, .inl (fun _ => 0))), (q_12, .inl (C 0, 2000, .inl (fun _ => 0)))] := hD
  refine va_putF (D := D) (ci := 5) (v := .ref q_12) (ty := tyX5 6) (C := RX5) (T := TX5) (N := 12) hx hb ht inX5 tyX5 tyX5_ok nmX5 hown hK hP hD hS 0 rfl rfl 6 (by decide) (ht _ m_338) (fun _ h9 => h9) rfl hin rfl (by decide +kernel) rfl rfl (Nat.le_of_ble_eq_true rfl) dX5_init_74 (fun H locs hP hD hS => ?_)
  have hP : va_P D vwCl [(h0, .inr (5, [.ref q_1, .ref q_3, .ref q_5, .ref q_7, .ref q_9, .ref q_11, .ref q_12, .int 0, .int 0, .int 0, .int 0, .int 0])), (q_1, .inr (3, [.ref (u_2.1 0), .ref (u_2.1 1), .ref (u_2.1 2), .ref (u_2.1 3), .ref (u_2.1 4), .ref (u_2.1 5), .ref (u_2.1 6), .int 0, .ref (u_2.1 7), .ref (u_2.1 8), .ref (u_2.1 9), .ref (u_2.1 10), .ref (u_2.1 11), .int 0])), ((u_2.1 0), .inl (C 0, 600, .inl (u_2.2 0))), ((u_2.1 1), .inl (C 0, 600, .inl (u_2.2 1))), ((u_2.1 2), .inl (C 1, 600, .inl (u_2.2 2))), ((u_2.1 3), .inl (C 0, 600, .inl (u_2.2 3))), ((u_2.1 4), .inl (C 0, 600, .inl (u_2.2 4))), ((u_2.1 5), .inl (C 0, 600, .inl (u_2.2 5))), ((u_2.1 6), .inl (C 0, 600, .inl (u_2.2 6))), ((u_2.1 7), .inl (C 0, 5999, .inl (u_2.2 7))), ((u_2.1 8), .inl (C 0, 5999, .inl (u_2.2 8))), ((u_2.1 9), .inl (C 0, 5999, .inl (u_2.2 9))), ((u_2.1 10), .inl (C 0, 5999, .inl (u_2.2 10))), ((u_2.1 11), .inl (C 0, 5999, .inl (u_2.2 11))), (q_3, .inr (1, [.ref (u_4.1 0)])), (q_5, .inr (2, [.ref (u_6.1 0), .ref (u_6.1 1), .int 0])), (q_7, .inr (4, [.ref (u_8.1 0), .ref (u_8.1 1), .int 1])), (q_9, .inr (0, [.int 0, .int 0, .int 0, .int 0, .int 0])), (q_11, .inl (C 0, 250, .inl (fun _ => 0))), (q_12, .inl (C 0, 2000, .inl (fun _ => 0)))] H := hP
  have hD : va_D A [(h0, .inr (5, [.ref q_1, .ref q_3, .ref q_5, .ref q_7, .ref q_9, .ref q_11, .ref q_12, .int 0, .int 0, .int 0, .int 0, .int 0])), (q_1, .inr (3, [.ref (u_2.1 0), .ref (u_2.1 1), .ref (u_2.1 2), .ref (u_2.1 3), .ref (u_2.1 4), .ref (u_2.1 5), .ref (u_2.1 6), .int 0, .ref (u_2.1 7), .ref (u_2.1 8), .ref (u_2.1 9), .ref (u_2.1 10), .ref (u_2.1 11), .int 0])), ((u_2.1 0), .inl (C 0, 600, .inl (u_2.2 0))), ((u_2.1 1), .inl (C 0, 600, .inl (u_2.2 1))), ((u_2.1 2), .inl (C 1, 600, .inl (u_2.2 2))), ((u_2.1 3), .inl (C 0, 600, .inl (u_2.2 3))), ((u_2.1 4), .inl (C 0, 600, .inl (u_2.2 4))), ((u_2.1 5), .inl (C 0, 600, .inl (u_2.2 5))), ((u_2.1 6), .inl (C 0, 600, .inl (u_2.2 6))), ((u_2.1 7), .inl (C 0, 5999, .inl (u_2.2 7))), ((u_2.1 8), .inl (C 0, 5999, .inl (u_2.2 8))), ((u_2.1 9), .inl (C 0, 5999, .inl (u_2.2 9))), ((u_2.1 10), .inl (C 0, 5999, .inl (u_2.2 10))), ((u_2.1 11), .inl (C 0, 5999, .inl (u_2.2 11))), (q_3, .inr (1, [.ref (u_4.1 0)])), (q_5, .inr (2, [.ref (u_6.1 0), .ref (u_6.1 1), .int 0])), (q_7, .inr (4, [.ref (u_8.1 0), .ref (u_8.1 1), .int 1])), (q_9, .inr (0, [.int 0, .int 0, .int 0, .int 0, .int 0])), (q_11, .inl (C 0, 250, .inl (fun _ => 0))), (q_12, .inl (C 0, 2000, .inl (fun _ => 0)))] := hD
  refine lv_aload_n hx hb dX5_init_77 rfl (lv_at hl 0 rfl) ?_
  refine lv_iconst (v := (-1)) hx hb dX5_init_78 (by decide) ?_
  refine va_put (D := D) (ci := 5) (v := .int (-1)) (ty := tyX5 9) (C := RX5) (T := TX5) (N := 12) hx hb ht inX5 tyX5 tyX5_ok nmX5 hown hK hP hD hS 0 rfl rfl 9 (by decide) (ht _ m_309) (fun _ h9 => h9) rfl (by decide +kernel) rfl rfl (Nat.le_of_ble_eq_true rfl) dX5_init_79 (fun H locs hP hD hS => ?_)
  have hP : va_P D vwCl [(h0, .inr (5, [.ref q_1, .ref q_3, .ref q_5, .ref q_7, .ref q_9, .ref q_11, .ref q_12, .int 0, .int 0, .int (-1), .int 0, .int 0])), (q_1, .inr (3, [.ref (u_2.1 0), .ref (u_2.1 1), .ref (u_2.1 2), .ref (u_2.1 3), .ref (u_2.1 4), .ref (u_2.1 5), .ref (u_2.1 6), .int 0, .ref (u_2.1 7), .ref (u_2.1 8), .ref (u_2.1 9), .ref (u_2.1 10), .ref (u_2.1 11), .int 0])), ((u_2.1 0), .inl (C 0, 600, .inl (u_2.2 0))), ((u_2.1 1), .inl (C 0, 600, .inl (u_2.2 1))), ((u_2.1 2), .inl (C 1, 600, .inl (u_2.2 2))), ((u_2.1 3), .inl (C 0, 600, .inl (u_2.2 3))), ((u_2.1 4), .inl (C 0, 600, .inl (u_2.2 4))), ((u_2.1 5), .inl (C 0, 600, .inl (u_2.2 5))), ((u_2.1 6), .inl (C 0, 600, .inl (u_2.2 6))), ((u_2.1 7), .inl (C 0, 5999, .inl (u_2.2 7))), ((u_2.1 8), .inl (C 0, 5999, .inl (u_2.2 8))), ((u_2.1 9), .inl (C 0, 5999, .inl (u_2.2 9))), ((u_2.1 10), .inl (C 0, 5999, .inl (u_2.2 10))), ((u_2.1 11), .inl (C 0, 5999, .inl (u_2.2 11))), (q_3, .inr (1, [.ref (u_4.1 0)])), (q_5, .inr (2, [.ref (u_6.1 0), .ref (u_6.1 1), .int 0])), (q_7, .inr (4, [.ref (u_8.1 0), .ref (u_8.1 1), .int 1])), (q_9, .inr (0, [.int 0, .int 0, .int 0, .int 0, .int 0])), (q_11, .inl (C 0, 250, .inl (fun _ => 0))), (q_12, .inl (C 0, 2000, .inl (fun _ => 0)))] H := hP
  have hD : va_D A [(h0, .inr (5, [.ref q_1, .ref q_3, .ref q_5, .ref q_7, .ref q_9, .ref q_11, .ref q_12, .int 0, .int 0, .int (-1), .int 0, .int 0])), (q_1, .inr (3, [.ref (u_2.1 0), .ref (u_2.1 1), .ref (u_2.1 2), .ref (u_2.1 3), .ref (u_2.1 4), .ref (u_2.1 5), .ref (u_2.1 6), .int 0, .ref (u_2.1 7), .ref (u_2.1 8), .ref (u_2.1 9), .ref (u_2.1 10), .ref (u_2.1 11), .int 0])), ((u_2.1 0), .inl (C 0, 600, .inl (u_2.2 0))), ((u_2.1 1), .inl (C 0, 600, .inl (u_2.2 1))), ((u_2.1 2), .inl (C 1, 600, .inl (u_2.2 2))), ((u_2.1 3), .inl (C 0, 600, .inl (u_2.2 3))), ((u_2.1 4), .inl (C 0, 600, .inl (u_2.2 4))), ((u_2.1 5), .inl (C 0, 600, .inl (u_2.2 5))), ((u_2.1 6), .inl (C 0, 600, .inl (u_2.2 6))), ((u_2.1 7), .inl (C 0, 5999, .inl (u_2.2 7))), ((u_2.1 8), .inl (C 0, 5999, .inl (u_2.2 8))), ((u_2.1 9), .inl (C 0, 5999, .inl (u_2.2 9))), ((u_2.1 10), .inl (C 0, 5999, .inl (u_2.2 10))), ((u_2.1 11), .inl (C 0, 5999, .inl (u_2.2 11))), (q_3, .inr (1, [.ref (u_4.1 0)])), (q_5, .inr (2, [.ref (u_6.1 0), .ref (u_6.1 1), .int 0])), (q_7, .inr (4, [.ref (u_8.1 0), .ref (u_8.1 1), .int 1])), (q_9, .inr (0, [.int 0, .int 0, .int 0, .int 0, .int 0])), (q_11, .inl (C 0, 250, .inl (fun _ => 0))), (q_12, .inl (C 0, 2000, .inl (fun _ => 0)))] := hD
  have hP9 := hP.sub (ws' := [(h0, .inr (5, [.ref q_1, .ref q_3, .ref q_5, .ref q_7, .ref q_9, .ref q_11, .ref q_12, .int 0, .int 0, .int (-1), .int 0, .int 0])), (q_5, .inr (2, [.ref (u_6.1 0), .ref (u_6.1 1), .int 0])), (q_7, .inr (4, [.ref (u_8.1 0), .ref (u_8.1 1), .int 1])), (q_1, .inr (3, [.ref (u_2.1 0), .ref (u_2.1 1), .ref (u_2.1 2), .ref (u_2.1 3), .ref (u_2.1 4), .ref (u_2.1 5), .ref (u_2.1 6), .int 0, .ref (u_2.1 7), .ref (u_2.1 8), .ref (u_2.1 9), .ref (u_2.1 10), .ref (u_2.1 11), .int 0])), ((u_2.1 0), .inl (C 0, 600, .inl (u_2.2 0))), ((u_2.1 1), .inl (C 0, 600, .inl (u_2.2 1))), ((u_2.1 2), .inl (C 1, 600, .inl (u_2.2 2))), ((u_2.1 3), .inl (C 0, 600, .inl (u_2.2 3))), ((u_2.1 4), .inl (C 0, 600, .inl (u_2.2 4))), ((u_2.1 5), .inl (C 0, 600, .inl (u_2.2 5))), ((u_2.1 6), .inl (C 0, 600, .inl (u_2.2 6))), ((u_2.1 7), .inl (C 0, 5999, .inl (u_2.2 7))), ((u_2.1 8), .inl (C 0, 5999, .inl (u_2.2 8))), ((u_2.1 9), .inl (C 0, 5999, .inl (u_2.2 9))), ((u_2.1 10), .inl (C 0, 5999, .inl (u_2.2 10))), ((u_2.1 11), .inl (C 0, 5999, .inl (u_2.2 11)))]) [0, 15, 16, 1, 2, 3, 4, 5, 6, 7, 8, 9, 10, 11, 12, 13] rfl
  have hD9 := hD.sub (ws' := [(h0, .inr (5, [.ref q_1, .ref q_3, .ref q_5, .ref q_7, .ref q_9, .ref q_11, .ref q_12, .int 0, .int 0, .int (-1), .int 0, .int 0])), (q_5, .inr (2, [.ref (u_6.1 0), .ref (u_6.1 1), .int 0])), (q_7, .inr (4, [.ref (u_8.1 0), .ref (u_8.1 1), .int 1])), (q_1, .inr (3, [.ref (u_2.1 0), .ref (u_2.1 1), .ref (u_2.1 2), .ref (u_2.1 3), .ref (u_2.1 4), .ref (u_2.1 5), .ref (u_2.1 6), .int 0, .ref (u_2.1 7), .ref (u_2.1 8), .ref (u_2.1 9), .ref (u_2.1 10), .ref (u_2.1 11), .int 0])), ((u_2.1 0), .inl (C 0, 600, .inl (u_2.2 0))), ((u_2.1 1), .inl (C 0, 600, .inl (u_2.2 1))), ((u_2.1 2), .inl (C 1, 600, .inl (u_2.2 2))), ((u_2.1 3), .inl (C 0, 600, .inl (u_2.2 3))), ((u_2.1 4), .inl (C 0, 600, .inl (u_2.2 4))), ((u_2.1 5), .inl (C 0, 600, .inl (u_2.2 5))), ((u_2.1 6), .inl (C 0, 600, .inl (u_2.2 6))), ((u_2.1 7), .inl (C 0, 5999, .inl (u_2.2 7))), ((u_2.1 8), .inl (C 0, 5999, .inl (u_2.2 8))), ((u_2.1 9), .inl (C 0, 5999, .inl (u_2.2 9))), ((u_2.1 10), .inl (C 0, 5999, .inl (u_2.2 10))), ((u_2.1 11), .inl (C 0, 5999, .inl (u_2.2 11)))]) [0, 15, 16, 1, 2, 3, 4, 5, 6, 7, 8, 9, 10, 11, 12, 13] (by decide) rfl
  refine W.widen (k := 229) (n := 49442) (by decide) (by decide) ?_
  exact W.vret hx hb hr (fun t ht1 hW => ⟨⟨(xA [q_1, (u_2.1 0), (u_2.1 1), (u_2.1 2), (u_2.1 3), (u_2.1 4), (u_2.1 5), (u_2.1 6), (u_2.1 7), (u_2.1 8), (u_2.1 9), (u_2.1 10), (u_2.1 11), q_3, q_5, q_7, q_9, q_11, q_12, (u_6.1 0), (u_6.1 1), (u_8.1 0), (u_8.1 1)], xF [(u_2.2 0), (u_2.2 1), (u_2.2 2), (u_2.2 3), (u_2.2 4), (u_2.2 5), (u_2.2 6), (u_2.2 7), (u_2.2 8), (u_2.2 9), (u_2.2 10), (u_2.2 11)]), rfl, by first | trivial | rfl | assumption | decide | (simp_all; done), by rw [ht1]; exact hP9, hD9⟩, hS.F ht1⟩) hS.2.2 dX5_init_82
end
