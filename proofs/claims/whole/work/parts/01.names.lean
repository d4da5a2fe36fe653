-- ===== PART A: goes FIRST, ahead of the names: the tables' words, and 'selects' of the private methods out of them =====
/-- a private method of a class that the tables say can be made, by its rows of tables_1 -/
def lw_okq (q : MethodName × Nat) : Prop := (q.1.cls ≠ "java/lang/invoke/MethodHandle" ∧ q.1.cls ≠ "java/lang/invoke/VarHandle") ∧ Cond.instantiable q.1.cls q.2 ∈ tables_1 ∧ Cond.privateMethod q.1 ∈ tables_1 ∧ Cond.instanceMethod q.1 ∈ tables_1
theorem lw_p0 : lw_okq (⟨"FencedLedger$Writer", "knows", "(I)Z"⟩, 5) := ⟨⟨by decide +kernel, by decide +kernel⟩, List.mem_of_getElem? (i := 131) (by decide +kernel), List.mem_of_getElem? (i := 229) (by decide +kernel), List.mem_of_getElem? (i := 230) (by decide +kernel)⟩
theorem lw_p1 : lw_okq (⟨"FencedLedger$Writer", "countAnswers", "(I)I"⟩, 5) := ⟨⟨by decide +kernel, by decide +kernel⟩, List.mem_of_getElem? (i := 131) (by decide +kernel), List.mem_of_getElem? (i := 233) (by decide +kernel), List.mem_of_getElem? (i := 234) (by decide +kernel)⟩
theorem lw_p2 : lw_okq (⟨"FencedLedger", "sendWritersAdd", "(I)I"⟩, 10) := ⟨⟨by decide +kernel, by decide +kernel⟩, List.mem_of_getElem? (i := 17) (by decide +kernel), List.mem_of_getElem? (i := 243) (by decide +kernel), List.mem_of_getElem? (i := 244) (by decide +kernel)⟩
theorem lw_p3 : lw_okq (⟨"FencedLedger", "sendToSet", "(IIIIIII)I"⟩, 10) := ⟨⟨by decide +kernel, by decide +kernel⟩, List.mem_of_getElem? (i := 17) (by decide +kernel), List.mem_of_getElem? (i := 247) (by decide +kernel), List.mem_of_getElem? (i := 248) (by decide +kernel)⟩
theorem lw_p4 : lw_okq (⟨"FencedLedger", "setMember", "(II)I"⟩, 10) := ⟨⟨by decide +kernel, by decide +kernel⟩, List.mem_of_getElem? (i := 17) (by decide +kernel), List.mem_of_getElem? (i := 251) (by decide +kernel), List.mem_of_getElem? (i := 252) (by decide +kernel)⟩
theorem lw_p5 : lw_okq (⟨"FencedLedger$Channel", "send", "(IIIIIII)V"⟩, 3) := ⟨⟨by decide +kernel, by decide +kernel⟩, List.mem_of_getElem? (i := 67) (by decide +kernel), List.mem_of_getElem? (i := 255) (by decide +kernel), List.mem_of_getElem? (i := 256) (by decide +kernel)⟩
theorem lw_p6 : lw_okq (⟨"FencedLedger", "shutLedger", "(I)V"⟩, 10) := ⟨⟨by decide +kernel, by decide +kernel⟩, List.mem_of_getElem? (i := 17) (by decide +kernel), List.mem_of_getElem? (i := 263) (by decide +kernel), List.mem_of_getElem? (i := 264) (by decide +kernel)⟩
theorem lw_p7 : lw_okq (⟨"FencedLedger$Recoverer", "beginFencing", "(I)V"⟩, 7) := ⟨⟨by decide +kernel, by decide +kernel⟩, List.mem_of_getElem? (i := 159) (by decide +kernel), List.mem_of_getElem? (i := 286) (by decide +kernel), List.mem_of_getElem? (i := 287) (by decide +kernel)⟩
theorem lw_p8 : lw_okq (⟨"FencedLedger", "sendStep", "(LFencedLedger$Recoverer;)I"⟩, 10) := ⟨⟨by decide +kernel, by decide +kernel⟩, List.mem_of_getElem? (i := 17) (by decide +kernel), List.mem_of_getElem? (i := 290) (by decide +kernel), List.mem_of_getElem? (i := 291) (by decide +kernel)⟩
theorem lw_p9 : lw_okq (⟨"FencedLedger", "sendFences", "(LFencedLedger$Recoverer;)I"⟩, 10) := ⟨⟨by decide +kernel, by decide +kernel⟩, List.mem_of_getElem? (i := 17) (by decide +kernel), List.mem_of_getElem? (i := 294) (by decide +kernel), List.mem_of_getElem? (i := 295) (by decide +kernel)⟩
theorem lw_p10 : lw_okq (⟨"FencedLedger$Recoverer", "isBusy", "()Z"⟩, 7) := ⟨⟨by decide +kernel, by decide +kernel⟩, List.mem_of_getElem? (i := 159) (by decide +kernel), List.mem_of_getElem? (i := 302) (by decide +kernel), List.mem_of_getElem? (i := 303) (by decide +kernel)⟩
theorem lw_p11 : lw_okq (⟨"FencedLedger$Recoverer", "detail", "(I)I"⟩, 7) := ⟨⟨by decide +kernel, by decide +kernel⟩, List.mem_of_getElem? (i := 159) (by decide +kernel), List.mem_of_getElem? (i := 314) (by decide +kernel), List.mem_of_getElem? (i := 315) (by decide +kernel)⟩
theorem lw_p12 : lw_okq (⟨"FencedLedger$Recoverer", "countAnswered", "()I"⟩, 7) := ⟨⟨by decide +kernel, by decide +kernel⟩, List.mem_of_getElem? (i := 159) (by decide +kernel), List.mem_of_getElem? (i := 318) (by decide +kernel), List.mem_of_getElem? (i := 319) (by decide +kernel)⟩
theorem lw_p13 : lw_okq (⟨"FencedLedger$Channel", "holds", "(I)Z"⟩, 3) := ⟨⟨by decide +kernel, by decide +kernel⟩, List.mem_of_getElem? (i := 67) (by decide +kernel), List.mem_of_getElem? (i := 327) (by decide +kernel), List.mem_of_getElem? (i := 328) (by decide +kernel)⟩
theorem lw_p14 : lw_okq (⟨"FencedLedger$Channel", "takeOut", "(I)LFencedLedger$Message;"⟩, 3) := ⟨⟨by decide +kernel, by decide +kernel⟩, List.mem_of_getElem? (i := 67) (by decide +kernel), List.mem_of_getElem? (i := 331) (by decide +kernel), List.mem_of_getElem? (i := 332) (by decide +kernel)⟩
theorem lw_p15 : lw_okq (⟨"FencedLedger$Message", "isToStore", "()Z"⟩, 7) := ⟨⟨by decide +kernel, by decide +kernel⟩, List.mem_of_getElem? (i := 74) (by decide +kernel), List.mem_of_getElem? (i := 335) (by decide +kernel), List.mem_of_getElem? (i := 336) (by decide +kernel)⟩
def lw_privs_1 : List (MethodName × Nat) := [(⟨"FencedLedger$Writer", "knows", "(I)Z"⟩, 5), (⟨"FencedLedger$Writer", "countAnswers", "(I)I"⟩, 5), (⟨"FencedLedger", "sendWritersAdd", "(I)I"⟩, 10), (⟨"FencedLedger", "sendToSet", "(IIIIIII)I"⟩, 10), (⟨"FencedLedger", "setMember", "(II)I"⟩, 10), (⟨"FencedLedger$Channel", "send", "(IIIIIII)V"⟩, 3), (⟨"FencedLedger", "shutLedger", "(I)V"⟩, 10), (⟨"FencedLedger$Recoverer", "beginFencing", "(I)V"⟩, 7), (⟨"FencedLedger", "sendStep", "(LFencedLedger$Recoverer;)I"⟩, 10), (⟨"FencedLedger", "sendFences", "(LFencedLedger$Recoverer;)I"⟩, 10), (⟨"FencedLedger$Recoverer", "isBusy", "()Z"⟩, 7), (⟨"FencedLedger$Recoverer", "detail", "(I)I"⟩, 7), (⟨"FencedLedger$Recoverer", "countAnswered", "()I"⟩, 7), (⟨"FencedLedger$Channel", "holds", "(I)Z"⟩, 3), (⟨"FencedLedger$Channel", "takeOut", "(I)LFencedLedger$Message;"⟩, 3), (⟨"FencedLedger$Message", "isToStore", "()Z"⟩, 7)]
theorem lw_r1 : ∀ q ∈ lw_privs_1, lw_okq q := List.forall_mem_cons.mpr ⟨lw_p0, List.forall_mem_cons.mpr ⟨lw_p1, List.forall_mem_cons.mpr ⟨lw_p2, List.forall_mem_cons.mpr ⟨lw_p3, List.forall_mem_cons.mpr ⟨lw_p4, List.forall_mem_cons.mpr ⟨lw_p5, List.forall_mem_cons.mpr ⟨lw_p6, List.forall_mem_cons.mpr ⟨lw_p7, List.forall_mem_cons.mpr ⟨lw_p8, List.forall_mem_cons.mpr ⟨lw_p9, List.forall_mem_cons.mpr ⟨lw_p10, List.forall_mem_cons.mpr ⟨lw_p11, List.forall_mem_cons.mpr ⟨lw_p12, List.forall_mem_cons.mpr ⟨lw_p13, List.forall_mem_cons.mpr ⟨lw_p14, List.forall_mem_cons.mpr ⟨lw_p15, fun _ h => absurd h List.not_mem_nil⟩⟩⟩⟩⟩⟩⟩⟩⟩⟩⟩⟩⟩⟩⟩⟩
theorem lw_p16 : lw_okq (⟨"FencedLedger", "reachStore", "(LFencedLedger$Message;)V"⟩, 10) := ⟨⟨by decide +kernel, by decide +kernel⟩, List.mem_of_getElem? (i := 17) (by decide +kernel), List.mem_of_getElem? (i := 339) (by decide +kernel), List.mem_of_getElem? (i := 340) (by decide +kernel)⟩
theorem lw_p17 : lw_okq (⟨"FencedLedger", "reachStoreWithAdd", "(LFencedLedger$Store;LFencedLedger$Message;)V"⟩, 10) := ⟨⟨by decide +kernel, by decide +kernel⟩, List.mem_of_getElem? (i := 17) (by decide +kernel), List.mem_of_getElem? (i := 343) (by decide +kernel), List.mem_of_getElem? (i := 344) (by decide +kernel)⟩
theorem lw_p18 : lw_okq (⟨"FencedLedger", "sendAnswer", "(LFencedLedger$Message;II)V"⟩, 10) := ⟨⟨by decide +kernel, by decide +kernel⟩, List.mem_of_getElem? (i := 17) (by decide +kernel), List.mem_of_getElem? (i := 347) (by decide +kernel), List.mem_of_getElem? (i := 348) (by decide +kernel)⟩
theorem lw_p19 : lw_okq (⟨"FencedLedger$Store", "keep", "(III)V"⟩, 6) := ⟨⟨by decide +kernel, by decide +kernel⟩, List.mem_of_getElem? (i := 35) (by decide +kernel), List.mem_of_getElem? (i := 351) (by decide +kernel), List.mem_of_getElem? (i := 352) (by decide +kernel)⟩
theorem lw_p20 : lw_okq (⟨"FencedLedger$Writer", "hear", "(LFencedLedger$Message;I)V"⟩, 5) := ⟨⟨by decide +kernel, by decide +kernel⟩, List.mem_of_getElem? (i := 131) (by decide +kernel), List.mem_of_getElem? (i := 356) (by decide +kernel), List.mem_of_getElem? (i := 357) (by decide +kernel)⟩
theorem lw_p21 : lw_okq (⟨"FencedLedger$Writer", "advanceLac", "(I)V"⟩, 5) := ⟨⟨by decide +kernel, by decide +kernel⟩, List.mem_of_getElem? (i := 131) (by decide +kernel), List.mem_of_getElem? (i := 360) (by decide +kernel), List.mem_of_getElem? (i := 361) (by decide +kernel)⟩
theorem lw_p22 : lw_okq (⟨"FencedLedger", "reachRecoverer", "(LFencedLedger$Message;)V"⟩, 10) := ⟨⟨by decide +kernel, by decide +kernel⟩, List.mem_of_getElem? (i := 17) (by decide +kernel), List.mem_of_getElem? (i := 365) (by decide +kernel), List.mem_of_getElem? (i := 366) (by decide +kernel)⟩
theorem lw_p23 : lw_okq (⟨"FencedLedger", "hearFenced", "(LFencedLedger$Recoverer;LFencedLedger$Message;)V"⟩, 10) := ⟨⟨by decide +kernel, by decide +kernel⟩, List.mem_of_getElem? (i := 17) (by decide +kernel), List.mem_of_getElem? (i := 369) (by decide +kernel), List.mem_of_getElem? (i := 370) (by decide +kernel)⟩
theorem lw_p24 : lw_okq (⟨"FencedLedger$Recoverer", "noteAnswer", "(I)V"⟩, 7) := ⟨⟨by decide +kernel, by decide +kernel⟩, List.mem_of_getElem? (i := 159) (by decide +kernel), List.mem_of_getElem? (i := 373) (by decide +kernel), List.mem_of_getElem? (i := 374) (by decide +kernel)⟩
theorem lw_p25 : lw_okq (⟨"FencedLedger", "isWriterFencedOut", "(I)Z"⟩, 10) := ⟨⟨by decide +kernel, by decide +kernel⟩, List.mem_of_getElem? (i := 17) (by decide +kernel), List.mem_of_getElem? (i := 377) (by decide +kernel), List.mem_of_getElem? (i := 378) (by decide +kernel)⟩
theorem lw_p26 : lw_okq (⟨"FencedLedger", "countSilent", "(II)I"⟩, 10) := ⟨⟨by decide +kernel, by decide +kernel⟩, List.mem_of_getElem? (i := 17) (by decide +kernel), List.mem_of_getElem? (i := 381) (by decide +kernel), List.mem_of_getElem? (i := 382) (by decide +kernel)⟩
theorem lw_p27 : lw_okq (⟨"FencedLedger", "readOn", "(LFencedLedger$Recoverer;I)V"⟩, 10) := ⟨⟨by decide +kernel, by decide +kernel⟩, List.mem_of_getElem? (i := 17) (by decide +kernel), List.mem_of_getElem? (i := 385) (by decide +kernel), List.mem_of_getElem? (i := 386) (by decide +kernel)⟩
theorem lw_p28 : lw_okq (⟨"FencedLedger", "finish", "(LFencedLedger$Recoverer;I)V"⟩, 10) := ⟨⟨by decide +kernel, by decide +kernel⟩, List.mem_of_getElem? (i := 17) (by decide +kernel), List.mem_of_getElem? (i := 389) (by decide +kernel), List.mem_of_getElem? (i := 390) (by decide +kernel)⟩
theorem lw_p29 : lw_okq (⟨"FencedLedger$Recoverer", "beginReading", "(I)V"⟩, 7) := ⟨⟨by decide +kernel, by decide +kernel⟩, List.mem_of_getElem? (i := 159) (by decide +kernel), List.mem_of_getElem? (i := 393) (by decide +kernel), List.mem_of_getElem? (i := 394) (by decide +kernel)⟩
theorem lw_p30 : lw_okq (⟨"FencedLedger$Recoverer", "awaits", "(II)Z"⟩, 7) := ⟨⟨by decide +kernel, by decide +kernel⟩, List.mem_of_getElem? (i := 159) (by decide +kernel), List.mem_of_getElem? (i := 397) (by decide +kernel), List.mem_of_getElem? (i := 398) (by decide +kernel)⟩
theorem lw_p31 : lw_okq (⟨"FencedLedger$Recoverer", "beginWritingBack", "(I)V"⟩, 7) := ⟨⟨by decide +kernel, by decide +kernel⟩, List.mem_of_getElem? (i := 159) (by decide +kernel), List.mem_of_getElem? (i := 401) (by decide +kernel), List.mem_of_getElem? (i := 402) (by decide +kernel)⟩
def lw_privs_2 : List (MethodName × Nat) := [(⟨"FencedLedger", "reachStore", "(LFencedLedger$Message;)V"⟩, 10), (⟨"FencedLedger", "reachStoreWithAdd", "(LFencedLedger$Store;LFencedLedger$Message;)V"⟩, 10), (⟨"FencedLedger", "sendAnswer", "(LFencedLedger$Message;II)V"⟩, 10), (⟨"FencedLedger$Store", "keep", "(III)V"⟩, 6), (⟨"FencedLedger$Writer", "hear", "(LFencedLedger$Message;I)V"⟩, 5), (⟨"FencedLedger$Writer", "advanceLac", "(I)V"⟩, 5), (⟨"FencedLedger", "reachRecoverer", "(LFencedLedger$Message;)V"⟩, 10), (⟨"FencedLedger", "hearFenced", "(LFencedLedger$Recoverer;LFencedLedger$Message;)V"⟩, 10), (⟨"FencedLedger$Recoverer", "noteAnswer", "(I)V"⟩, 7), (⟨"FencedLedger", "isWriterFencedOut", "(I)Z"⟩, 10), (⟨"FencedLedger", "countSilent", "(II)I"⟩, 10), (⟨"FencedLedger", "readOn", "(LFencedLedger$Recoverer;I)V"⟩, 10), (⟨"FencedLedger", "finish", "(LFencedLedger$Recoverer;I)V"⟩, 10), (⟨"FencedLedger$Recoverer", "beginReading", "(I)V"⟩, 7), (⟨"FencedLedger$Recoverer", "awaits", "(II)Z"⟩, 7), (⟨"FencedLedger$Recoverer", "beginWritingBack", "(I)V"⟩, 7)]
theorem lw_r2 : ∀ q ∈ lw_privs_2, lw_okq q := List.forall_mem_cons.mpr ⟨lw_p16, List.forall_mem_cons.mpr ⟨lw_p17, List.forall_mem_cons.mpr ⟨lw_p18, List.forall_mem_cons.mpr ⟨lw_p19, List.forall_mem_cons.mpr ⟨lw_p20, List.forall_mem_cons.mpr ⟨lw_p21, List.forall_mem_cons.mpr ⟨lw_p22, List.forall_mem_cons.mpr ⟨lw_p23, List.forall_mem_cons.mpr ⟨lw_p24, List.forall_mem_cons.mpr ⟨lw_p25, List.forall_mem_cons.mpr ⟨lw_p26, List.forall_mem_cons.mpr ⟨lw_p27, List.forall_mem_cons.mpr ⟨lw_p28, List.forall_mem_cons.mpr ⟨lw_p29, List.forall_mem_cons.mpr ⟨lw_p30, List.forall_mem_cons.mpr ⟨lw_p31, fun _ h => absurd h List.not_mem_nil⟩⟩⟩⟩⟩⟩⟩⟩⟩⟩⟩⟩⟩⟩⟩⟩
theorem lw_p32 : lw_okq (⟨"FencedLedger", "hearMissing", "(LFencedLedger$Recoverer;LFencedLedger$Message;)V"⟩, 10) := ⟨⟨by decide +kernel, by decide +kernel⟩, List.mem_of_getElem? (i := 17) (by decide +kernel), List.mem_of_getElem? (i := 405) (by decide +kernel), List.mem_of_getElem? (i := 406) (by decide +kernel)⟩
theorem lw_p33 : lw_okq (⟨"FencedLedger", "hearAdded", "(LFencedLedger$Recoverer;LFencedLedger$Message;)V"⟩, 10) := ⟨⟨by decide +kernel, by decide +kernel⟩, List.mem_of_getElem? (i := 17) (by decide +kernel), List.mem_of_getElem? (i := 410) (by decide +kernel), List.mem_of_getElem? (i := 411) (by decide +kernel)⟩
theorem lw_p34 : lw_okq (⟨"FencedLedger$Message", "detail", "(I)I"⟩, 7) := ⟨⟨by decide +kernel, by decide +kernel⟩, List.mem_of_getElem? (i := 74) (by decide +kernel), List.mem_of_getElem? (i := 426) (by decide +kernel), List.mem_of_getElem? (i := 427) (by decide +kernel)⟩
theorem lw_p35 : lw_okq (⟨"FencedLedger", "isStore", "(I)Z"⟩, 10) := ⟨⟨by decide +kernel, by decide +kernel⟩, List.mem_of_getElem? (i := 17) (by decide +kernel), List.mem_of_getElem? (i := 434) (by decide +kernel), List.mem_of_getElem? (i := 435) (by decide +kernel)⟩
theorem lw_p36 : lw_okq (⟨"FencedLedger$Store", "detail", "(I)I"⟩, 6) := ⟨⟨by decide +kernel, by decide +kernel⟩, List.mem_of_getElem? (i := 35) (by decide +kernel), List.mem_of_getElem? (i := 442) (by decide +kernel), List.mem_of_getElem? (i := 443) (by decide +kernel)⟩
theorem lw_p37 : lw_okq (⟨"java/lang/Throwable", "fillInStackTrace", "(I)Ljava/lang/Throwable;"⟩, 6) := ⟨⟨by decide +kernel, by decide +kernel⟩, List.mem_of_getElem? (i := 507) (by decide +kernel), List.mem_of_getElem? (i := 505) (by decide +kernel), List.mem_of_getElem? (i := 506) (by decide +kernel)⟩
theorem lw_p38 : lw_okq (⟨"FencedLedger$Writer", "isFull", "()Z"⟩, 5) := ⟨⟨by decide +kernel, by decide +kernel⟩, List.mem_of_getElem? (i := 131) (by decide +kernel), List.mem_of_getElem? (i := 537) (by decide +kernel), List.mem_of_getElem? (i := 538) (by decide +kernel)⟩
theorem lw_p39 : lw_okq (⟨"FencedLedger$Writer", "append", "(I)I"⟩, 5) := ⟨⟨by decide +kernel, by decide +kernel⟩, List.mem_of_getElem? (i := 131) (by decide +kernel), List.mem_of_getElem? (i := 557) (by decide +kernel), List.mem_of_getElem? (i := 558) (by decide +kernel)⟩
theorem lw_p40 : lw_okq (⟨"FencedLedger", "firstUpWith", "(I)I"⟩, 10) := ⟨⟨by decide +kernel, by decide +kernel⟩, List.mem_of_getElem? (i := 17) (by decide +kernel), List.mem_of_getElem? (i := 571) (by decide +kernel), List.mem_of_getElem? (i := 572) (by decide +kernel)⟩
theorem lw_p41 : lw_okq (⟨"FencedLedgerModel", "isMessage", "(I)Z"⟩, 25) := ⟨⟨by decide +kernel, by decide +kernel⟩, List.mem_of_getElem? (i := 591) (by decide +kernel), List.mem_of_getElem? (i := 681) (by decide +kernel), List.mem_of_getElem? (i := 682) (by decide +kernel)⟩
theorem lw_p42 : lw_okq (⟨"FencedLedgerModel", "remove", "(I)V"⟩, 25) := ⟨⟨by decide +kernel, by decide +kernel⟩, List.mem_of_getElem? (i := 591) (by decide +kernel), List.mem_of_getElem? (i := 685) (by decide +kernel), List.mem_of_getElem? (i := 686) (by decide +kernel)⟩
theorem lw_p43 : lw_okq (⟨"FencedLedgerModel", "keep", "(IIIIII)V"⟩, 25) := ⟨⟨by decide +kernel, by decide +kernel⟩, List.mem_of_getElem? (i := 591) (by decide +kernel), List.mem_of_getElem? (i := 689) (by decide +kernel), List.mem_of_getElem? (i := 690) (by decide +kernel)⟩
theorem lw_p44 : lw_okq (⟨"FencedLedgerModel", "send", "(IIIIIII)V"⟩, 25) := ⟨⟨by decide +kernel, by decide +kernel⟩, List.mem_of_getElem? (i := 591) (by decide +kernel), List.mem_of_getElem? (i := 693) (by decide +kernel), List.mem_of_getElem? (i := 694) (by decide +kernel)⟩
theorem lw_p45 : lw_okq (⟨"FencedLedgerModel", "fence", "(IIIII)V"⟩, 25) := ⟨⟨by decide +kernel, by decide +kernel⟩, List.mem_of_getElem? (i := 591) (by decide +kernel), List.mem_of_getElem? (i := 697) (by decide +kernel), List.mem_of_getElem? (i := 698) (by decide +kernel)⟩
theorem lw_p46 : lw_okq (⟨"FencedLedgerModel", "hears", "(III)V"⟩, 25) := ⟨⟨by decide +kernel, by decide +kernel⟩, List.mem_of_getElem? (i := 591) (by decide +kernel), List.mem_of_getElem? (i := 701) (by decide +kernel), List.mem_of_getElem? (i := 702) (by decide +kernel)⟩
theorem lw_p47 : lw_okq (⟨"FencedLedgerModel", "ackCount", "(I)I"⟩, 25) := ⟨⟨by decide +kernel, by decide +kernel⟩, List.mem_of_getElem? (i := 591) (by decide +kernel), List.mem_of_getElem? (i := 705) (by decide +kernel), List.mem_of_getElem? (i := 706) (by decide +kernel)⟩
def lw_privs_3 : List (MethodName × Nat) := [(⟨"FencedLedger", "hearMissing", "(LFencedLedger$Recoverer;LFencedLedger$Message;)V"⟩, 10), (⟨"FencedLedger", "hearAdded", "(LFencedLedger$Recoverer;LFencedLedger$Message;)V"⟩, 10), (⟨"FencedLedger$Message", "detail", "(I)I"⟩, 7), (⟨"FencedLedger", "isStore", "(I)Z"⟩, 10), (⟨"FencedLedger$Store", "detail", "(I)I"⟩, 6), (⟨"java/lang/Throwable", "fillInStackTrace", "(I)Ljava/lang/Throwable;"⟩, 6), (⟨"FencedLedger$Writer", "isFull", "()Z"⟩, 5), (⟨"FencedLedger$Writer", "append", "(I)I"⟩, 5), (⟨"FencedLedger", "firstUpWith", "(I)I"⟩, 10), (⟨"FencedLedgerModel", "isMessage", "(I)Z"⟩, 25), (⟨"FencedLedgerModel", "remove", "(I)V"⟩, 25), (⟨"FencedLedgerModel", "keep", "(IIIIII)V"⟩, 25), (⟨"FencedLedgerModel", "send", "(IIIIIII)V"⟩, 25), (⟨"FencedLedgerModel", "fence", "(IIIII)V"⟩, 25), (⟨"FencedLedgerModel", "hears", "(III)V"⟩, 25), (⟨"FencedLedgerModel", "ackCount", "(I)I"⟩, 25)]
theorem lw_r3 : ∀ q ∈ lw_privs_3, lw_okq q := List.forall_mem_cons.mpr ⟨lw_p32, List.forall_mem_cons.mpr ⟨lw_p33, List.forall_mem_cons.mpr ⟨lw_p34, List.forall_mem_cons.mpr ⟨lw_p35, List.forall_mem_cons.mpr ⟨lw_p36, List.forall_mem_cons.mpr ⟨lw_p37, List.forall_mem_cons.mpr ⟨lw_p38, List.forall_mem_cons.mpr ⟨lw_p39, List.forall_mem_cons.mpr ⟨lw_p40, List.forall_mem_cons.mpr ⟨lw_p41, List.forall_mem_cons.mpr ⟨lw_p42, List.forall_mem_cons.mpr ⟨lw_p43, List.forall_mem_cons.mpr ⟨lw_p44, List.forall_mem_cons.mpr ⟨lw_p45, List.forall_mem_cons.mpr ⟨lw_p46, List.forall_mem_cons.mpr ⟨lw_p47, fun _ h => absurd h List.not_mem_nil⟩⟩⟩⟩⟩⟩⟩⟩⟩⟩⟩⟩⟩⟩⟩⟩
theorem lw_p48 : lw_okq (⟨"FencedLedgerModel", "learns", "(IIIII)V"⟩, 25) := ⟨⟨by decide +kernel, by decide +kernel⟩, List.mem_of_getElem? (i := 591) (by decide +kernel), List.mem_of_getElem? (i := 709) (by decide +kernel), List.mem_of_getElem? (i := 710) (by decide +kernel)⟩
theorem lw_p49 : lw_okq (⟨"FencedLedgerModel", "covers", "(I)Z"⟩, 25) := ⟨⟨by decide +kernel, by decide +kernel⟩, List.mem_of_getElem? (i := 591) (by decide +kernel), List.mem_of_getElem? (i := 713) (by decide +kernel), List.mem_of_getElem? (i := 714) (by decide +kernel)⟩
theorem lw_p50 : lw_okq (⟨"FencedLedgerModel", "readOn", "(II)V"⟩, 25) := ⟨⟨by decide +kernel, by decide +kernel⟩, List.mem_of_getElem? (i := 591) (by decide +kernel), List.mem_of_getElem? (i := 717) (by decide +kernel), List.mem_of_getElem? (i := 718) (by decide +kernel)⟩
theorem lw_p51 : lw_okq (⟨"FencedLedgerModel", "finish", "(II)V"⟩, 25) := ⟨⟨by decide +kernel, by decide +kernel⟩, List.mem_of_getElem? (i := 591) (by decide +kernel), List.mem_of_getElem? (i := 721) (by decide +kernel), List.mem_of_getElem? (i := 722) (by decide +kernel)⟩
theorem lw_p52 : lw_okq (⟨"FencedLedgerModel", "forget", "(I)V"⟩, 25) := ⟨⟨by decide +kernel, by decide +kernel⟩, List.mem_of_getElem? (i := 591) (by decide +kernel), List.mem_of_getElem? (i := 725) (by decide +kernel), List.mem_of_getElem? (i := 726) (by decide +kernel)⟩
theorem lw_p53 : lw_okq (⟨"FencedLedgerModel", "ask", "(I)I"⟩, 25) := ⟨⟨by decide +kernel, by decide +kernel⟩, List.mem_of_getElem? (i := 591) (by decide +kernel), List.mem_of_getElem? (i := 729) (by decide +kernel), List.mem_of_getElem? (i := 730) (by decide +kernel)⟩
theorem lw_p54 : lw_okq (⟨"FencedLedgerModel", "answerCount", "(I)I"⟩, 25) := ⟨⟨by decide +kernel, by decide +kernel⟩, List.mem_of_getElem? (i := 591) (by decide +kernel), List.mem_of_getElem? (i := 733) (by decide +kernel), List.mem_of_getElem? (i := 734) (by decide +kernel)⟩
theorem lw_p55 : lw_okq (⟨"FencedLedgerModel", "spread", "(I)I"⟩, 25) := ⟨⟨by decide +kernel, by decide +kernel⟩, List.mem_of_getElem? (i := 591) (by decide +kernel), List.mem_of_getElem? (i := 753) (by decide +kernel), List.mem_of_getElem? (i := 754) (by decide +kernel)⟩
theorem lw_p56 : lw_okq (⟨"FencedLedgerModel", "busy", "(I)Z"⟩, 25) := ⟨⟨by decide +kernel, by decide +kernel⟩, List.mem_of_getElem? (i := 591) (by decide +kernel), List.mem_of_getElem? (i := 780) (by decide +kernel), List.mem_of_getElem? (i := 781) (by decide +kernel)⟩
theorem lw_p57 : lw_okq (⟨"FencedLedgerModel", "isStore", "(I)Z"⟩, 25) := ⟨⟨by decide +kernel, by decide +kernel⟩, List.mem_of_getElem? (i := 591) (by decide +kernel), List.mem_of_getElem? (i := 792) (by decide +kernel), List.mem_of_getElem? (i := 793) (by decide +kernel)⟩
def lw_privs_4 : List (MethodName × Nat) := [(⟨"FencedLedgerModel", "learns", "(IIIII)V"⟩, 25), (⟨"FencedLedgerModel", "covers", "(I)Z"⟩, 25), (⟨"FencedLedgerModel", "readOn", "(II)V"⟩, 25), (⟨"FencedLedgerModel", "finish", "(II)V"⟩, 25), (⟨"FencedLedgerModel", "forget", "(I)V"⟩, 25), (⟨"FencedLedgerModel", "ask", "(I)I"⟩, 25), (⟨"FencedLedgerModel", "answerCount", "(I)I"⟩, 25), (⟨"FencedLedgerModel", "spread", "(I)I"⟩, 25), (⟨"FencedLedgerModel", "busy", "(I)Z"⟩, 25), (⟨"FencedLedgerModel", "isStore", "(I)Z"⟩, 25)]
theorem lw_r4 : ∀ q ∈ lw_privs_4, lw_okq q := List.forall_mem_cons.mpr ⟨lw_p48, List.forall_mem_cons.mpr ⟨lw_p49, List.forall_mem_cons.mpr ⟨lw_p50, List.forall_mem_cons.mpr ⟨lw_p51, List.forall_mem_cons.mpr ⟨lw_p52, List.forall_mem_cons.mpr ⟨lw_p53, List.forall_mem_cons.mpr ⟨lw_p54, List.forall_mem_cons.mpr ⟨lw_p55, List.forall_mem_cons.mpr ⟨lw_p56, List.forall_mem_cons.mpr ⟨lw_p57, fun _ h => absurd h List.not_mem_nil⟩⟩⟩⟩⟩⟩⟩⟩⟩⟩
def lw_privs : List (MethodName × Nat) := lw_privs_1 ++ (lw_privs_2 ++ (lw_privs_3 ++ (lw_privs_4)))
def lw_tbl : List Cond := k2_sels lw_privs ++ tables_1
theorem lw_privs_ok : ∀ q ∈ lw_privs, lw_okq q := by
  show ∀ q ∈ lw_privs_1 ++ (lw_privs_2 ++ (lw_privs_3 ++ (lw_privs_4))), lw_okq q
  exact List.forall_mem_append.mpr ⟨lw_r1, List.forall_mem_append.mpr ⟨lw_r2, List.forall_mem_append.mpr ⟨lw_r3, lw_r4⟩⟩⟩

def R_CH : String := "FencedLedger$Channel"
def T_CH : u_T := fun k => match k with
  | 0 => ("FencedLedger$Channel", "rows", "[LFencedLedger$Message;", true)
  | 1 => ("FencedLedger$Channel", "taken", "LFencedLedger$Message;", false)
  | _ => ("FencedLedger$Channel", "count", "I", false)
def ty_CH : Nat → FieldType := fun k => match k with
  | 0 => .array (.object "FencedLedger$Message")
  | 1 => .object "FencedLedger$Message"
  | _ => .int
theorem nn_CH : ∀ a, a < 3 → ∀ b, b < 3 → a ≠ b → (T_CH a).2.1 ≠ (T_CH b).2.1 := by decide +kernel
theorem tyok_CH : ∀ k, k < 3 → parseFieldDescriptor (T_CH k).2.2.1 = some (ty_CH k) := by decide +kernel
def R_MS : String := "FencedLedger$Message"
def T_MS : u_T := fun k => match k with
  | 0 => ("FencedLedger$Message", "kind", "I", false)
  | 1 => ("FencedLedger$Message", "client", "I", false)
  | 2 => ("FencedLedger$Message", "store", "I", false)
  | 3 => ("FencedLedger$Message", "entry", "I", false)
  | 4 => ("FencedLedger$Message", "value", "I", false)
  | 5 => ("FencedLedger$Message", "term", "I", false)
  | _ => ("FencedLedger$Message", "mark", "I", false)
def ty_MS : Nat → FieldType := fun k => match k with
  | 0 => .int
  | 1 => .int
  | 2 => .int
  | 3 => .int
  | 4 => .int
  | 5 => .int
  | _ => .int
theorem nn_MS : ∀ a, a < 7 → ∀ b, b < 7 → a ≠ b → (T_MS a).2.1 ≠ (T_MS b).2.1 := by decide +kernel
theorem tyok_MS : ∀ k, k < 7 → parseFieldDescriptor (T_MS k).2.2.1 = some (ty_MS k) := by decide +kernel
def R_RC : String := "FencedLedger$Recoverer"
def T_RC : u_T := fun k => match k with
  | 0 => ("FencedLedger$Recoverer", "client", "I", true)
  | 1 => ("FencedLedger$Recoverer", "state", "I", false)
  | 2 => ("FencedLedger$Recoverer", "term", "I", false)
  | 3 => ("FencedLedger$Recoverer", "entry", "I", false)
  | 4 => ("FencedLedger$Recoverer", "answered", "I", false)
  | 5 => ("FencedLedger$Recoverer", "highestMark", "I", false)
  | _ => ("FencedLedger$Recoverer", "value", "I", false)
def ty_RC : Nat → FieldType := fun k => match k with
  | 0 => .int
  | 1 => .int
  | 2 => .int
  | 3 => .int
  | 4 => .int
  | 5 => .int
  | _ => .int
theorem nn_RC : ∀ a, a < 7 → ∀ b, b < 7 → a ≠ b → (T_RC a).2.1 ≠ (T_RC b).2.1 := by decide +kernel
theorem tyok_RC : ∀ k, k < 7 → parseFieldDescriptor (T_RC k).2.2.1 = some (ty_RC k) := by decide +kernel
def R_ST : String := "FencedLedger$Store"
def T_ST : u_T := fun k => match k with
  | 0 => ("FencedLedger$Store", "kept", "[Z", true)
  | 1 => ("FencedLedger$Store", "values", "[I", true)
  | 2 => ("FencedLedger$Store", "up", "Z", false)
  | 3 => ("FencedLedger$Store", "fenced", "Z", false)
  | 4 => ("FencedLedger$Store", "mark", "I", false)
  | _ => ("FencedLedger$Store", "keptCount", "I", false)
def ty_ST : Nat → FieldType := fun k => match k with
  | 0 => .array .boolean
  | 1 => .array .int
  | 2 => .boolean
  | 3 => .boolean
  | 4 => .int
  | _ => .int
theorem nn_ST : ∀ a, a < 6 → ∀ b, b < 6 → a ≠ b → (T_ST a).2.1 ≠ (T_ST b).2.1 := by decide +kernel
theorem tyok_ST : ∀ k, k < 6 → parseFieldDescriptor (T_ST k).2.2.1 = some (ty_ST k) := by decide +kernel
def R_WR : String := "FencedLedger$Writer"
def T_WR : u_T := fun k => match k with
  | 0 => ("FencedLedger$Writer", "values", "[I", true)
  | 1 => ("FencedLedger$Writer", "answered", "[I", true)
  | 2 => ("FencedLedger$Writer", "state", "I", false)
  | 3 => ("FencedLedger$Writer", "entryCount", "I", false)
  | _ => ("FencedLedger$Writer", "lac", "I", false)
def ty_WR : Nat → FieldType := fun k => match k with
  | 0 => .array .int
  | 1 => .array .int
  | 2 => .int
  | 3 => .int
  | _ => .int
theorem nn_WR : ∀ a, a < 5 → ∀ b, b < 5 → a ≠ b → (T_WR a).2.1 ≠ (T_WR b).2.1 := by decide +kernel
theorem tyok_WR : ∀ k, k < 5 → parseFieldDescriptor (T_WR k).2.2.1 = some (ty_WR k) := by decide +kernel
def R_FL : String := "FencedLedger"
def T_FL : u_T := fun k => match k with
  | 0 => ("FencedLedger", "storeCount", "I", true)
  | 1 => ("FencedLedger", "setSize", "I", true)
  | 2 => ("FencedLedger", "quorum", "I", true)
  | 3 => ("FencedLedger", "stores", "[LFencedLedger$Store;", true)
  | 4 => ("FencedLedger", "channel", "LFencedLedger$Channel;", true)
  | 5 => ("FencedLedger", "theWriter", "LFencedLedger$Writer;", true)
  | 6 => ("FencedLedger", "recoverers", "[LFencedLedger$Recoverer;", true)
  | 7 => ("FencedLedger", "ledgerState", "I", false)
  | 8 => ("FencedLedger", "ledgerVersion", "I", false)
  | _ => ("FencedLedger", "ledgerLast", "I", false)
def ty_FL : Nat → FieldType := fun k => match k with
  | 0 => .int
  | 1 => .int
  | 2 => .int
  | 3 => .array (.object "FencedLedger$Store")
  | 4 => .object "FencedLedger$Channel"
  | 5 => .object "FencedLedger$Writer"
  | 6 => .array (.object "FencedLedger$Recoverer")
  | 7 => .int
  | 8 => .int
  | _ => .int
theorem nn_FL : ∀ a, a < 10 → ∀ b, b < 10 → a ≠ b → (T_FL a).2.1 ≠ (T_FL b).2.1 := by decide +kernel
theorem tyok_FL : ∀ k, k < 10 → parseFieldDescriptor (T_FL k).2.2.1 = some (ty_FL k) := by decide +kernel
def R_MD : String := "FencedLedgerModel"
def T_MD : u_T := fun k => match k with
  | 0 => ("FencedLedgerModel", "thrown", "I", false)
  | 1 => ("FencedLedgerModel", "stores", "I", false)
  | 2 => ("FencedLedgerModel", "width", "I", false)
  | 3 => ("FencedLedgerModel", "quorum", "I", false)
  | 4 => ("FencedLedgerModel", "off", "[Z", false)
  | 5 => ("FencedLedgerModel", "fenced", "[Z", false)
  | 6 => ("FencedLedgerModel", "mark", "[I", false)
  | 7 => ("FencedLedgerModel", "held", "[Z", false)
  | 8 => ("FencedLedgerModel", "heldValue", "[I", false)
  | 9 => ("FencedLedgerModel", "stage", "I", false)
  | 10 => ("FencedLedgerModel", "version", "I", false)
  | 11 => ("FencedLedgerModel", "last", "I", false)
  | 12 => ("FencedLedgerModel", "flying", "I", false)
  | 13 => ("FencedLedgerModel", "fly", "[I", false)
  | 14 => ("FencedLedgerModel", "writing", "I", false)
  | 15 => ("FencedLedgerModel", "added", "I", false)
  | 16 => ("FencedLedgerModel", "lac", "I", false)
  | 17 => ("FencedLedgerModel", "written", "[I", false)
  | 18 => ("FencedLedgerModel", "acked", "[Z", false)
  | 19 => ("FencedLedgerModel", "mode", "[I", false)
  | 20 => ("FencedLedgerModel", "term", "[I", false)
  | 21 => ("FencedLedgerModel", "at", "[I", false)
  | 22 => ("FencedLedgerModel", "highest", "[I", false)
  | 23 => ("FencedLedgerModel", "back", "[I", false)
  | _ => ("FencedLedgerModel", "answered", "[Z", false)
def ty_MD : Nat → FieldType := fun k => match k with
  | 0 => .int
  | 1 => .int
  | 2 => .int
  | 3 => .int
  | 4 => .array .boolean
  | 5 => .array .boolean
  | 6 => .array .int
  | 7 => .array .boolean
  | 8 => .array .int
  | 9 => .int
  | 10 => .int
  | 11 => .int
  | 12 => .int
  | 13 => .array .int
  | 14 => .int
  | 15 => .int
  | 16 => .int
  | 17 => .array .int
  | 18 => .array .boolean
  | 19 => .array .int
  | 20 => .array .int
  | 21 => .array .int
  | 22 => .array .int
  | 23 => .array .int
  | _ => .array .boolean
theorem nn_MD : ∀ a, a < 25 → ∀ b, b < 25 → a ≠ b → (T_MD a).2.1 ≠ (T_MD b).2.1 := by decide +kernel
theorem tyok_MD : ∀ k, k < 25 → parseFieldDescriptor (T_MD k).2.2.1 = some (ty_MD k) := by decide +kernel
def R_JI : String := "java/lang/Integer"
def R_LW : String := "FencedLedgerLaw"
abbrev fw_cl : List vw_C := [(R_CH, T_CH, 3), (R_MS, T_MS, 7), (R_RC, T_RC, 7), (R_ST, T_ST, 6), (R_WR, T_WR, 5), (R_FL, T_FL, 10), (R_MD, T_MD, 25)]
def fw_nf (c : Nat) : Nat := match c with
  | 0 => 3
  | 1 => 7
  | 2 => 7
  | 3 => 6
  | 4 => 5
  | 5 => 10
  | 6 => 25
  | _ => 0
def fw_rf (c j : Nat) : Bool := match c, j with
  | 0, 0 => true
  | 0, 1 => true
  | 3, 0 => true
  | 3, 1 => true
  | 4, 0 => true
  | 4, 1 => true
  | 5, 3 => true
  | 5, 4 => true
  | 5, 5 => true
  | 5, 6 => true
  | 6, 4 => true
  | 6, 5 => true
  | 6, 6 => true
  | 6, 7 => true
  | 6, 8 => true
  | 6, 13 => true
  | 6, 17 => true
  | 6, 18 => true
  | 6, 19 => true
  | 6, 20 => true
  | 6, 21 => true
  | 6, 22 => true
  | 6, 23 => true
  | 6, 24 => true
  | _, _ => false
abbrev fw_cStore : Nat := 3
abbrev fw_cMessage : Nat := 1
abbrev fw_cRecoverer : Nat := 2
abbrev fw_tys (aC : Nat → ClassId) : List (ClassId × FieldType) := [(aC 20, .int), (aC 21, .boolean), (aC 22, .long), (aC 23, .object "FencedLedger$Store"), (aC 24, .object "FencedLedger$Message"), (aC 25, .object "FencedLedger$Recoverer")]
def fw_ws : List Cond := lw_tbl.filter goodWord
def fw_isN (w : Cond) : Bool := match w with
  | .fieldLinkNest .. => true
  | .methodLinkNest .. => true
  | .declares .. => true
  | .castable .. => true
  | _ => false
def fw_nest : List Cond := lw_tbl.filter fw_isN
theorem fw_in1 {w : Cond} (h : w ∈ tables_1_1) : w ∈ lw_tbl := List.mem_append_right _ (List.mem_append_left _ h)
theorem fw_in2 {w : Cond} (h : w ∈ tables_1_2) : w ∈ lw_tbl := List.mem_append_right _ (List.mem_append_right _ (List.mem_append_left _ h))
theorem fw_in3 {w : Cond} (h : w ∈ tables_1_3) : w ∈ lw_tbl := List.mem_append_right _ (List.mem_append_right _ (List.mem_append_right _ (List.mem_append_left _ h)))
theorem fw_in4 {w : Cond} (h : w ∈ tables_1_4) : w ∈ lw_tbl := List.mem_append_right _ (List.mem_append_right _ (List.mem_append_right _ (List.mem_append_right _ h)))
abbrev b_MS_init : ByteArray := prog_3_method_1_code
def y_MS_init : MethodName := ⟨R_MS, "<init>", "()V"⟩
def w_MS_init : List Cond := .code y_MS_init b_MS_init 1 none :: fw_ws
abbrev r_MS_init : Room := { frames := 1, cells := 0, slots := 0, locals := 20 }
abbrev b_CH_init : ByteArray := prog_2_method_1_code
def y_CH_init : MethodName := ⟨R_CH, "<init>", "()V"⟩
def w_CH_init : List Cond := .code y_CH_init b_CH_init 2 none :: fw_ws
abbrev r_CH_init : Room := { frames := 2, cells := 22, slots := 167, locals := 40 }
abbrev b_CH_holds : ByteArray := prog_2_method_2_code
def y_CH_holds : MethodName := ⟨R_CH, "holds", "(I)Z"⟩
def w_CH_holds : List Cond := .code y_CH_holds b_CH_holds 2 (some .boolean) :: fw_ws
abbrev r_CH_holds : Room := { frames := 0, cells := 0, slots := 0, locals := 0 }
abbrev b_CH_send : ByteArray := prog_2_method_3_code
def y_CH_send : MethodName := ⟨R_CH, "send", "(IIIIIII)V"⟩
def w_CH_send : List Cond := .code y_CH_send b_CH_send 9 none :: fw_ws
abbrev r_CH_send : Room := { frames := 0, cells := 0, slots := 0, locals := 0 }
abbrev b_CH_takeOut : ByteArray := prog_2_method_4_code
def y_CH_takeOut : MethodName := ⟨R_CH, "takeOut", "(I)LFencedLedger$Message;"⟩
def w_CH_takeOut : List Cond := .code y_CH_takeOut b_CH_takeOut 4 (some (.object "FencedLedger$Message")) :: fw_ws
abbrev r_CH_takeOut : Room := { frames := 0, cells := 0, slots := 0, locals := 0 }
abbrev b_MS_isToStore : ByteArray := prog_3_method_2_code
def y_MS_isToStore : MethodName := ⟨R_MS, "isToStore", "()Z"⟩
def w_MS_isToStore : List Cond := .code y_MS_isToStore b_MS_isToStore 1 (some .boolean) :: fw_ws
abbrev r_MS_isToStore : Room := { frames := 0, cells := 0, slots := 0, locals := 0 }
abbrev b_MS_detail : ByteArray := prog_3_method_3_code
def y_MS_detail : MethodName := ⟨R_MS, "detail", "(I)I"⟩
def w_MS_detail : List Cond := .code y_MS_detail b_MS_detail 2 (some .int) :: fw_ws
abbrev r_MS_detail : Room := { frames := 0, cells := 0, slots := 0, locals := 0 }
abbrev b_RC_init : ByteArray := prog_4_method_1_code
def y_RC_init : MethodName := ⟨R_RC, "<init>", "(I)V"⟩
def w_RC_init : List Cond := .code y_RC_init b_RC_init 2 none :: fw_ws
abbrev r_RC_init : Room := { frames := 1, cells := 0, slots := 0, locals := 20 }
abbrev b_RC_isBusy : ByteArray := prog_4_method_2_code
def y_RC_isBusy : MethodName := ⟨R_RC, "isBusy", "()Z"⟩
def w_RC_isBusy : List Cond := .code y_RC_isBusy b_RC_isBusy 1 (some .boolean) :: fw_ws
abbrev r_RC_isBusy : Room := { frames := 0, cells := 0, slots := 0, locals := 0 }
abbrev b_RC_awaits : ByteArray := prog_4_method_3_code
def y_RC_awaits : MethodName := ⟨R_RC, "awaits", "(II)Z"⟩
def w_RC_awaits : List Cond := .code y_RC_awaits b_RC_awaits 3 (some .boolean) :: fw_ws
abbrev r_RC_awaits : Room := { frames := 0, cells := 0, slots := 0, locals := 0 }
abbrev b_RC_beginFencing : ByteArray := prog_4_method_4_code
def y_RC_beginFencing : MethodName := ⟨R_RC, "beginFencing", "(I)V"⟩
def w_RC_beginFencing : List Cond := .code y_RC_beginFencing b_RC_beginFencing 2 none :: fw_ws
abbrev r_RC_beginFencing : Room := { frames := 0, cells := 0, slots := 0, locals := 0 }
abbrev b_RC_beginReading : ByteArray := prog_4_method_5_code
def y_RC_beginReading : MethodName := ⟨R_RC, "beginReading", "(I)V"⟩
def w_RC_beginReading : List Cond := .code y_RC_beginReading b_RC_beginReading 2 none :: fw_ws
abbrev r_RC_beginReading : Room := { frames := 0, cells := 0, slots := 0, locals := 0 }
abbrev b_RC_beginWritingBack : ByteArray := prog_4_method_6_code
def y_RC_beginWritingBack : MethodName := ⟨R_RC, "beginWritingBack", "(I)V"⟩
def w_RC_beginWritingBack : List Cond := .code y_RC_beginWritingBack b_RC_beginWritingBack 2 none :: fw_ws
abbrev r_RC_beginWritingBack : Room := { frames := 0, cells := 0, slots := 0, locals := 0 }
abbrev b_RC_noteAnswer : ByteArray := prog_4_method_7_code
def y_RC_noteAnswer : MethodName := ⟨R_RC, "noteAnswer", "(I)V"⟩
def w_RC_noteAnswer : List Cond := .code y_RC_noteAnswer b_RC_noteAnswer 2 none :: fw_ws
abbrev r_RC_noteAnswer : Room := { frames := 0, cells := 0, slots := 0, locals := 0 }
abbrev b_JI_bitCount : ByteArray := prog_12_method_49_code
def y_JI_bitCount : MethodName := ⟨R_JI, "bitCount", "(I)I"⟩
def w_JI_bitCount : List Cond := .code y_JI_bitCount b_JI_bitCount 1 (some .int) :: fw_ws
abbrev r_JI_bitCount : Room := { frames := 0, cells := 0, slots := 0, locals := 0 }
abbrev b_RC_countAnswered : ByteArray := prog_4_method_8_code
def y_RC_countAnswered : MethodName := ⟨R_RC, "countAnswered", "()I"⟩
def w_RC_countAnswered : List Cond := .code y_RC_countAnswered b_RC_countAnswered 1 (some .int) :: fw_ws
abbrev r_RC_countAnswered : Room := { frames := 1, cells := 0, slots := 0, locals := 20 }
abbrev b_RC_detail : ByteArray := prog_4_method_9_code
def y_RC_detail : MethodName := ⟨R_RC, "detail", "(I)I"⟩
def w_RC_detail : List Cond := .code y_RC_detail b_RC_detail 2 (some .int) :: fw_ws
abbrev r_RC_detail : Room := { frames := 2, cells := 0, slots := 0, locals := 40 }
abbrev b_ST_init : ByteArray := prog_5_method_1_code
def y_ST_init : MethodName := ⟨R_ST, "<init>", "()V"⟩
def w_ST_init : List Cond := .code y_ST_init b_ST_init 1 none :: fw_ws
abbrev r_ST_init : Room := { frames := 1, cells := 2, slots := 40, locals := 20 }
abbrev b_ST_keep : ByteArray := prog_5_method_2_code
def y_ST_keep : MethodName := ⟨R_ST, "keep", "(III)V"⟩
def w_ST_keep : List Cond := .code y_ST_keep b_ST_keep 4 none :: fw_ws
abbrev r_ST_keep : Room := { frames := 1, cells := 0, slots := 0, locals := 21 }
abbrev b_ST_detail : ByteArray := prog_5_method_3_code
def y_ST_detail : MethodName := ⟨R_ST, "detail", "(I)I"⟩
def w_ST_detail : List Cond := .code y_ST_detail b_ST_detail 2 (some .int) :: fw_ws
abbrev r_ST_detail : Room := { frames := 0, cells := 0, slots := 0, locals := 0 }
abbrev b_WR_init : ByteArray := prog_6_method_1_code
def y_WR_init : MethodName := ⟨R_WR, "<init>", "()V"⟩
def w_WR_init : List Cond := .code y_WR_init b_WR_init 1 none :: fw_ws
abbrev r_WR_init : Room := { frames := 1, cells := 2, slots := 40, locals := 20 }
abbrev b_WR_isFull : ByteArray := prog_6_method_2_code
def y_WR_isFull : MethodName := ⟨R_WR, "isFull", "()Z"⟩
def w_WR_isFull : List Cond := .code y_WR_isFull b_WR_isFull 1 (some .boolean) :: fw_ws
abbrev r_WR_isFull : Room := { frames := 0, cells := 0, slots := 0, locals := 0 }
abbrev b_WR_knows : ByteArray := prog_6_method_3_code
def y_WR_knows : MethodName := ⟨R_WR, "knows", "(I)Z"⟩
def w_WR_knows : List Cond := .code y_WR_knows b_WR_knows 2 (some .boolean) :: fw_ws
abbrev r_WR_knows : Room := { frames := 0, cells := 0, slots := 0, locals := 0 }
abbrev b_WR_append : ByteArray := prog_6_method_4_code
def y_WR_append : MethodName := ⟨R_WR, "append", "(I)I"⟩
def w_WR_append : List Cond := .code y_WR_append b_WR_append 3 (some .int) :: fw_ws
abbrev r_WR_append : Room := { frames := 0, cells := 0, slots := 0, locals := 0 }
abbrev b_WR_countAnswers : ByteArray := prog_6_method_5_code
def y_WR_countAnswers : MethodName := ⟨R_WR, "countAnswers", "(I)I"⟩
def w_WR_countAnswers : List Cond := .code y_WR_countAnswers b_WR_countAnswers 2 (some .int) :: fw_ws
abbrev r_WR_countAnswers : Room := { frames := 1, cells := 0, slots := 0, locals := 20 }
abbrev b_WR_advanceLac : ByteArray := prog_6_method_7_code
def y_WR_advanceLac : MethodName := ⟨R_WR, "advanceLac", "(I)V"⟩
def w_WR_advanceLac : List Cond := .code y_WR_advanceLac b_WR_advanceLac 3 none :: fw_ws
abbrev r_WR_advanceLac : Room := { frames := 2, cells := 0, slots := 0, locals := 41 }
abbrev b_WR_hear : ByteArray := prog_6_method_6_code
def y_WR_hear : MethodName := ⟨R_WR, "hear", "(LFencedLedger$Message;I)V"⟩
def w_WR_hear : List Cond := .code y_WR_hear b_WR_hear 3 none :: fw_ws
abbrev r_WR_hear : Room := { frames := 3, cells := 0, slots := 0, locals := 63 }
abbrev b_FL_nearest : ByteArray := prog_1_method_21_code
def y_FL_nearest : MethodName := ⟨R_FL, "nearest", "(III)I"⟩
def w_FL_nearest : List Cond := .code y_FL_nearest b_FL_nearest 3 (some .int) :: fw_ws
abbrev r_FL_nearest : Room := { frames := 1, cells := 0, slots := 0, locals := 21 }
abbrev b_FL_init : ByteArray := prog_1_method_1_code
def y_FL_init : MethodName := ⟨R_FL, "<init>", "(III)V"⟩
def w_FL_init : List Cond := .code y_FL_init b_FL_init 5 none :: fw_ws
abbrev r_FL_init : Room := { frames := 3, cells := 45, slots := 466, locals := 61 }
abbrev b_FL_setMember : ByteArray := prog_1_method_25_code
def y_FL_setMember : MethodName := ⟨R_FL, "setMember", "(II)I"⟩
def w_FL_setMember : List Cond := .code y_FL_setMember b_FL_setMember 3 (some .int) :: fw_ws
abbrev r_FL_setMember : Room := { frames := 0, cells := 0, slots := 0, locals := 0 }
abbrev b_FL_sendToSet : ByteArray := prog_1_method_29_code
def y_FL_sendToSet : MethodName := ⟨R_FL, "sendToSet", "(IIIIIII)I"⟩
def w_FL_sendToSet : List Cond := .code y_FL_sendToSet b_FL_sendToSet 11 (some .int) :: fw_ws
abbrev r_FL_sendToSet : Room := { frames := 1, cells := 0, slots := 0, locals := 28 }
abbrev b_FL_sendWritersAdd : ByteArray := prog_1_method_28_code
def y_FL_sendWritersAdd : MethodName := ⟨R_FL, "sendWritersAdd", "(I)I"⟩
def w_FL_sendWritersAdd : List Cond := .code y_FL_sendWritersAdd b_FL_sendWritersAdd 3 (some .int) :: fw_ws
abbrev r_FL_sendWritersAdd : Room := { frames := 2, cells := 0, slots := 0, locals := 58 }
abbrev b_FL_add : ByteArray := prog_1_method_2_code
def y_FL_add : MethodName := ⟨R_FL, "add", "(I)I"⟩
def w_FL_add : List Cond := .code y_FL_add b_FL_add 3 (some .int) :: fw_ws
abbrev r_FL_add : Room := { frames := 3, cells := 0, slots := 0, locals := 80 }
abbrev b_FL_resend : ByteArray := prog_1_method_3_code
def y_FL_resend : MethodName := ⟨R_FL, "resend", "(I)I"⟩
def w_FL_resend : List Cond := .code y_FL_resend b_FL_resend 2 (some .int) :: fw_ws
abbrev r_FL_resend : Room := { frames := 3, cells := 0, slots := 0, locals := 80 }
abbrev b_FL_shutLedger : ByteArray := prog_1_method_27_code
def y_FL_shutLedger : MethodName := ⟨R_FL, "shutLedger", "(I)V"⟩
def w_FL_shutLedger : List Cond := .code y_FL_shutLedger b_FL_shutLedger 2 none :: fw_ws
abbrev r_FL_shutLedger : Room := { frames := 0, cells := 0, slots := 0, locals := 0 }
abbrev b_FL_close : ByteArray := prog_1_method_4_code
def y_FL_close : MethodName := ⟨R_FL, "close", "()Z"⟩
def w_FL_close : List Cond := .code y_FL_close b_FL_close 1 (some .boolean) :: fw_ws
abbrev r_FL_close : Room := { frames := 1, cells := 0, slots := 0, locals := 21 }
abbrev b_FL_leave : ByteArray := prog_1_method_5_code
def y_FL_leave : MethodName := ⟨R_FL, "leave", "()Z"⟩
def w_FL_leave : List Cond := .code y_FL_leave b_FL_leave 1 (some .boolean) :: fw_ws
abbrev r_FL_leave : Room := { frames := 0, cells := 0, slots := 0, locals := 0 }
abbrev b_FL_writer : ByteArray := prog_1_method_6_code
def y_FL_writer : MethodName := ⟨R_FL, "writer", "(I)I"⟩
def w_FL_writer : List Cond := .code y_FL_writer b_FL_writer 2 (some .int) :: fw_ws
abbrev r_FL_writer : Room := { frames := 0, cells := 0, slots := 0, locals := 0 }
abbrev b_FL_answers : ByteArray := prog_1_method_7_code
def y_FL_answers : MethodName := ⟨R_FL, "answers", "(I)I"⟩
def w_FL_answers : List Cond := .code y_FL_answers b_FL_answers 2 (some .int) :: fw_ws
abbrev r_FL_answers : Room := { frames := 2, cells := 0, slots := 0, locals := 41 }
abbrev b_FL_isRecoverer : ByteArray := prog_1_method_23_code
def y_FL_isRecoverer : MethodName := ⟨R_FL, "isRecoverer", "(I)Z"⟩
def w_FL_isRecoverer : List Cond := .code y_FL_isRecoverer b_FL_isRecoverer 1 (some .boolean) :: fw_ws
abbrev r_FL_isRecoverer : Room := { frames := 0, cells := 0, slots := 0, locals := 0 }
abbrev b_FL_sendFences : ByteArray := prog_1_method_30_code
def y_FL_sendFences : MethodName := ⟨R_FL, "sendFences", "(LFencedLedger$Recoverer;)I"⟩
def w_FL_sendFences : List Cond := .code y_FL_sendFences b_FL_sendFences 4 (some .int) :: fw_ws
abbrev r_FL_sendFences : Room := { frames := 1, cells := 0, slots := 0, locals := 28 }
abbrev b_FL_sendStep : ByteArray := prog_1_method_31_code
def y_FL_sendStep : MethodName := ⟨R_FL, "sendStep", "(LFencedLedger$Recoverer;)I"⟩
def w_FL_sendStep : List Cond := .code y_FL_sendStep b_FL_sendStep 2 (some .int) :: fw_ws
abbrev r_FL_sendStep : Room := { frames := 2, cells := 0, slots := 0, locals := 58 }
abbrev b_FL_recover : ByteArray := prog_1_method_8_code
def y_FL_recover : MethodName := ⟨R_FL, "recover", "(I)Z"⟩
def w_FL_recover : List Cond := .code y_FL_recover b_FL_recover 3 (some .boolean) :: fw_ws
abbrev r_FL_recover : Room := { frames := 3, cells := 0, slots := 0, locals := 79 }
abbrev b_FL_retry : ByteArray := prog_1_method_9_code
def y_FL_retry : MethodName := ⟨R_FL, "retry", "(I)I"⟩
def w_FL_retry : List Cond := .code y_FL_retry b_FL_retry 2 (some .int) :: fw_ws
abbrev r_FL_retry : Room := { frames := 3, cells := 0, slots := 0, locals := 79 }
abbrev b_FL_abandon : ByteArray := prog_1_method_10_code
def y_FL_abandon : MethodName := ⟨R_FL, "abandon", "(I)Z"⟩
def w_FL_abandon : List Cond := .code y_FL_abandon b_FL_abandon 2 (some .boolean) :: fw_ws
abbrev r_FL_abandon : Room := { frames := 1, cells := 0, slots := 0, locals := 20 }
abbrev b_FL_recoverer : ByteArray := prog_1_method_11_code
def y_FL_recoverer : MethodName := ⟨R_FL, "recoverer", "(II)I"⟩
def w_FL_recoverer : List Cond := .code y_FL_recoverer b_FL_recoverer 3 (some .int) :: fw_ws
abbrev r_FL_recoverer : Room := { frames := 3, cells := 0, slots := 0, locals := 61 }
abbrev b_FL_finish : ByteArray := prog_1_method_42_code
def y_FL_finish : MethodName := ⟨R_FL, "finish", "(LFencedLedger$Recoverer;I)V"⟩
def w_FL_finish : List Cond := .code y_FL_finish b_FL_finish 3 none :: fw_ws
abbrev r_FL_finish : Room := { frames := 1, cells := 0, slots := 0, locals := 21 }
abbrev b_FL_readOn : ByteArray := prog_1_method_41_code
def y_FL_readOn : MethodName := ⟨R_FL, "readOn", "(LFencedLedger$Recoverer;I)V"⟩
def w_FL_readOn : List Cond := .code y_FL_readOn b_FL_readOn 3 none :: fw_ws
abbrev r_FL_readOn : Room := { frames := 3, cells := 0, slots := 0, locals := 79 }
abbrev b_FL_hearAdded : ByteArray := prog_1_method_38_code
def y_FL_hearAdded : MethodName := ⟨R_FL, "hearAdded", "(LFencedLedger$Recoverer;LFencedLedger$Message;)V"⟩
def w_FL_hearAdded : List Cond := .code y_FL_hearAdded b_FL_hearAdded 3 none :: fw_ws
abbrev r_FL_hearAdded : Room := { frames := 4, cells := 0, slots := 0, locals := 101 }
abbrev b_FL_hearMissing : ByteArray := prog_1_method_37_code
def y_FL_hearMissing : MethodName := ⟨R_FL, "hearMissing", "(LFencedLedger$Recoverer;LFencedLedger$Message;)V"⟩
def w_FL_hearMissing : List Cond := .code y_FL_hearMissing b_FL_hearMissing 3 none :: fw_ws
abbrev r_FL_hearMissing : Room := { frames := 2, cells := 0, slots := 0, locals := 43 }
abbrev b_FL_countSilent : ByteArray := prog_1_method_40_code
def y_FL_countSilent : MethodName := ⟨R_FL, "countSilent", "(II)I"⟩
def w_FL_countSilent : List Cond := .code y_FL_countSilent b_FL_countSilent 5 (some .int) :: fw_ws
abbrev r_FL_countSilent : Room := { frames := 1, cells := 0, slots := 0, locals := 22 }
abbrev b_FL_isWriterFencedOut : ByteArray := prog_1_method_39_code
def y_FL_isWriterFencedOut : MethodName := ⟨R_FL, "isWriterFencedOut", "(I)Z"⟩
def w_FL_isWriterFencedOut : List Cond := .code y_FL_isWriterFencedOut b_FL_isWriterFencedOut 3 (some .boolean) :: fw_ws
abbrev r_FL_isWriterFencedOut : Room := { frames := 2, cells := 0, slots := 0, locals := 46 }
abbrev b_FL_hearFenced : ByteArray := prog_1_method_36_code
def y_FL_hearFenced : MethodName := ⟨R_FL, "hearFenced", "(LFencedLedger$Recoverer;LFencedLedger$Message;)V"⟩
def w_FL_hearFenced : List Cond := .code y_FL_hearFenced b_FL_hearFenced 3 none :: fw_ws
abbrev r_FL_hearFenced : Room := { frames := 4, cells := 0, slots := 0, locals := 101 }
abbrev b_FL_reachRecoverer : ByteArray := prog_1_method_35_code
def y_FL_reachRecoverer : MethodName := ⟨R_FL, "reachRecoverer", "(LFencedLedger$Message;)V"⟩
def w_FL_reachRecoverer : List Cond := .code y_FL_reachRecoverer b_FL_reachRecoverer 3 none :: fw_ws
abbrev r_FL_reachRecoverer : Room := { frames := 5, cells := 0, slots := 0, locals := 123 }
abbrev b_FL_sendAnswer : ByteArray := prog_1_method_34_code
def y_FL_sendAnswer : MethodName := ⟨R_FL, "sendAnswer", "(LFencedLedger$Message;II)V"⟩
def w_FL_sendAnswer : List Cond := .code y_FL_sendAnswer b_FL_sendAnswer 4 none :: fw_ws
abbrev r_FL_sendAnswer : Room := { frames := 1, cells := 0, slots := 0, locals := 28 }
abbrev b_FL_reachStoreWithAdd : ByteArray := prog_1_method_33_code
def y_FL_reachStoreWithAdd : MethodName := ⟨R_FL, "reachStoreWithAdd", "(LFencedLedger$Store;LFencedLedger$Message;)V"⟩
def w_FL_reachStoreWithAdd : List Cond := .code y_FL_reachStoreWithAdd b_FL_reachStoreWithAdd 3 none :: fw_ws
abbrev r_FL_reachStoreWithAdd : Room := { frames := 2, cells := 0, slots := 0, locals := 51 }
abbrev b_FL_reachStore : ByteArray := prog_1_method_32_code
def y_FL_reachStore : MethodName := ⟨R_FL, "reachStore", "(LFencedLedger$Message;)V"⟩
def w_FL_reachStore : List Cond := .code y_FL_reachStore b_FL_reachStore 3 none :: fw_ws
abbrev r_FL_reachStore : Room := { frames := 3, cells := 0, slots := 0, locals := 73 }
abbrev b_FL_deliver : ByteArray := prog_1_method_12_code
def y_FL_deliver : MethodName := ⟨R_FL, "deliver", "(I)I"⟩
def w_FL_deliver : List Cond := .code y_FL_deliver b_FL_deliver 3 (some .int) :: fw_ws
abbrev r_FL_deliver : Room := { frames := 6, cells := 0, slots := 0, locals := 145 }
abbrev b_FL_lose : ByteArray := prog_1_method_13_code
def y_FL_lose : MethodName := ⟨R_FL, "lose", "(I)Z"⟩
def w_FL_lose : List Cond := .code y_FL_lose b_FL_lose 2 (some .boolean) :: fw_ws
abbrev r_FL_lose : Room := { frames := 1, cells := 0, slots := 0, locals := 23 }
abbrev b_FL_flight : ByteArray := prog_1_method_14_code
def y_FL_flight : MethodName := ⟨R_FL, "flight", "()I"⟩
def w_FL_flight : List Cond := .code y_FL_flight b_FL_flight 1 (some .int) :: fw_ws
abbrev r_FL_flight : Room := { frames := 0, cells := 0, slots := 0, locals := 0 }
abbrev b_FL_message : ByteArray := prog_1_method_15_code
def y_FL_message : MethodName := ⟨R_FL, "message", "(II)I"⟩
def w_FL_message : List Cond := .code y_FL_message b_FL_message 3 (some .int) :: fw_ws
abbrev r_FL_message : Room := { frames := 1, cells := 0, slots := 0, locals := 21 }
abbrev b_FL_isStore : ByteArray := prog_1_method_24_code
def y_FL_isStore : MethodName := ⟨R_FL, "isStore", "(I)Z"⟩
def w_FL_isStore : List Cond := .code y_FL_isStore b_FL_isStore 2 (some .boolean) :: fw_ws
abbrev r_FL_isStore : Room := { frames := 0, cells := 0, slots := 0, locals := 0 }
abbrev b_FL_power : ByteArray := prog_1_method_16_code
def y_FL_power : MethodName := ⟨R_FL, "power", "(IZ)Z"⟩
def w_FL_power : List Cond := .code y_FL_power b_FL_power 3 (some .boolean) :: fw_ws
abbrev r_FL_power : Room := { frames := 1, cells := 0, slots := 0, locals := 21 }
abbrev b_FL_store : ByteArray := prog_1_method_17_code
def y_FL_store : MethodName := ⟨R_FL, "store", "(II)I"⟩
def w_FL_store : List Cond := .code y_FL_store b_FL_store 3 (some .int) :: fw_ws
abbrev r_FL_store : Room := { frames := 1, cells := 0, slots := 0, locals := 21 }
abbrev b_FL_isEntry : ByteArray := prog_1_method_22_code
def y_FL_isEntry : MethodName := ⟨R_FL, "isEntry", "(I)Z"⟩
def w_FL_isEntry : List Cond := .code y_FL_isEntry b_FL_isEntry 1 (some .boolean) :: fw_ws
abbrev r_FL_isEntry : Room := { frames := 0, cells := 0, slots := 0, locals := 0 }
abbrev b_FL_has : ByteArray := prog_1_method_18_code
def y_FL_has : MethodName := ⟨R_FL, "has", "(II)Z"⟩
def w_FL_has : List Cond := .code y_FL_has b_FL_has 3 (some .boolean) :: fw_ws
abbrev r_FL_has : Room := { frames := 1, cells := 0, slots := 0, locals := 21 }
abbrev b_FL_ledger : ByteArray := prog_1_method_19_code
def y_FL_ledger : MethodName := ⟨R_FL, "ledger", "(I)I"⟩
def w_FL_ledger : List Cond := .code y_FL_ledger b_FL_ledger 2 (some .int) :: fw_ws
abbrev r_FL_ledger : Room := { frames := 0, cells := 0, slots := 0, locals := 0 }
abbrev b_FL_firstUpWith : ByteArray := prog_1_method_26_code
def y_FL_firstUpWith : MethodName := ⟨R_FL, "firstUpWith", "(I)I"⟩
def w_FL_firstUpWith : List Cond := .code y_FL_firstUpWith b_FL_firstUpWith 4 (some .int) :: fw_ws
abbrev r_FL_firstUpWith : Room := { frames := 1, cells := 0, slots := 0, locals := 22 }
abbrev b_FL_read : ByteArray := prog_1_method_20_code
def y_FL_read : MethodName := ⟨R_FL, "read", "(I)I"⟩
def w_FL_read : List Cond := .code y_FL_read b_FL_read 3 (some .int) :: fw_ws
abbrev r_FL_read : Room := { frames := 2, cells := 0, slots := 0, locals := 45 }
abbrev b_MD_init : ByteArray := prog_8_method_1_code
def y_MD_init : MethodName := ⟨R_MD, "<init>", "(III)V"⟩
def w_MD_init : List Cond := .code y_MD_init b_MD_init 5 none :: fw_ws
abbrev r_MD_init : Room := { frames := 1, cells := 14, slots := 505, locals := 20 }
abbrev b_MD_thrown : ByteArray := prog_8_method_2_code
def y_MD_thrown : MethodName := ⟨R_MD, "thrown", "()I"⟩
def w_MD_thrown : List Cond := .code y_MD_thrown b_MD_thrown 1 (some .int) :: fw_ws
abbrev r_MD_thrown : Room := { frames := 0, cells := 0, slots := 0, locals := 0 }
abbrev b_MD_send : ByteArray := prog_8_method_3_code
def y_MD_send : MethodName := ⟨R_MD, "send", "(IIIIIII)V"⟩
def w_MD_send : List Cond := .code y_MD_send b_MD_send 9 none :: fw_ws
abbrev r_MD_send : Room := { frames := 0, cells := 0, slots := 0, locals := 0 }
abbrev b_MD_remove : ByteArray := prog_8_method_4_code
def y_MD_remove : MethodName := ⟨R_MD, "remove", "(I)V"⟩
def w_MD_remove : List Cond := .code y_MD_remove b_MD_remove 3 none :: fw_ws
abbrev r_MD_remove : Room := { frames := 0, cells := 0, slots := 0, locals := 0 }
abbrev b_MD_isMessage : ByteArray := prog_8_method_5_code
def y_MD_isMessage : MethodName := ⟨R_MD, "isMessage", "(I)Z"⟩
def w_MD_isMessage : List Cond := .code y_MD_isMessage b_MD_isMessage 2 (some .boolean) :: fw_ws
abbrev r_MD_isMessage : Room := { frames := 0, cells := 0, slots := 0, locals := 0 }
abbrev b_MD_answerCount : ByteArray := prog_8_method_20_code
def y_MD_answerCount : MethodName := ⟨R_MD, "answerCount", "(I)I"⟩
def w_MD_answerCount : List Cond := .code y_MD_answerCount b_MD_answerCount 4 (some .int) :: fw_ws
abbrev r_MD_answerCount : Room := { frames := 0, cells := 0, slots := 0, locals := 0 }
abbrev b_MD_forget : ByteArray := prog_8_method_19_code
def y_MD_forget : MethodName := ⟨R_MD, "forget", "(I)V"⟩
def w_MD_forget : List Cond := .code y_MD_forget b_MD_forget 3 none :: fw_ws
abbrev r_MD_forget : Room := { frames := 0, cells := 0, slots := 0, locals := 0 }
abbrev b_MD_ask : ByteArray := prog_8_method_21_code
def y_MD_ask : MethodName := ⟨R_MD, "ask", "(I)I"⟩
def w_MD_ask : List Cond := .code y_MD_ask b_MD_ask 6 (some .int) :: fw_ws
abbrev r_MD_ask : Room := { frames := 1, cells := 0, slots := 0, locals := 28 }
abbrev b_MD_finish : ByteArray := prog_8_method_22_code
def y_MD_finish : MethodName := ⟨R_MD, "finish", "(II)V"⟩
def w_MD_finish : List Cond := .code y_MD_finish b_MD_finish 3 none :: fw_ws
abbrev r_MD_finish : Room := { frames := 0, cells := 0, slots := 0, locals := 0 }
abbrev b_MD_readOn : ByteArray := prog_8_method_23_code
def y_MD_readOn : MethodName := ⟨R_MD, "readOn", "(II)V"⟩
def w_MD_readOn : List Cond := .code y_MD_readOn b_MD_readOn 4 none :: fw_ws
abbrev r_MD_readOn : Room := { frames := 2, cells := 0, slots := 0, locals := 53 }
abbrev b_MD_covers : ByteArray := prog_8_method_24_code
def y_MD_covers : MethodName := ⟨R_MD, "covers", "(I)Z"⟩
def w_MD_covers : List Cond := .code y_MD_covers b_MD_covers 6 (some .boolean) :: fw_ws
abbrev r_MD_covers : Room := { frames := 0, cells := 0, slots := 0, locals := 0 }
abbrev b_MD_learns : ByteArray := prog_8_method_25_code
def y_MD_learns : MethodName := ⟨R_MD, "learns", "(IIIII)V"⟩
def w_MD_learns : List Cond := .code y_MD_learns b_MD_learns 8 none :: fw_ws
abbrev r_MD_learns : Room := { frames := 3, cells := 0, slots := 0, locals := 76 }
abbrev b_MD_ackCount : ByteArray := prog_8_method_12_code
def y_MD_ackCount : MethodName := ⟨R_MD, "ackCount", "(I)I"⟩
def w_MD_ackCount : List Cond := .code y_MD_ackCount b_MD_ackCount 4 (some .int) :: fw_ws
abbrev r_MD_ackCount : Room := { frames := 0, cells := 0, slots := 0, locals := 0 }
abbrev b_MD_hears : ByteArray := prog_8_method_13_code
def y_MD_hears : MethodName := ⟨R_MD, "hears", "(III)V"⟩
def w_MD_hears : List Cond := .code y_MD_hears b_MD_hears 6 none :: fw_ws
abbrev r_MD_hears : Room := { frames := 1, cells := 0, slots := 0, locals := 23 }
abbrev b_MD_fence : ByteArray := prog_8_method_11_code
def y_MD_fence : MethodName := ⟨R_MD, "fence", "(IIIII)V"⟩
def w_MD_fence : List Cond := .code y_MD_fence b_MD_fence 6 none :: fw_ws
abbrev r_MD_fence : Room := { frames := 1, cells := 0, slots := 0, locals := 28 }
abbrev b_MD_keep : ByteArray := prog_8_method_10_code
def y_MD_keep : MethodName := ⟨R_MD, "keep", "(IIIIII)V"⟩
def w_MD_keep : List Cond := .code y_MD_keep b_MD_keep 7 none :: fw_ws
abbrev r_MD_keep : Room := { frames := 1, cells := 0, slots := 0, locals := 28 }
abbrev b_MD_deliver : ByteArray := prog_8_method_6_code
def y_MD_deliver : MethodName := ⟨R_MD, "deliver", "(I)I"⟩
def w_MD_deliver : List Cond := .code y_MD_deliver b_MD_deliver 10 (some .int) :: fw_ws
abbrev r_MD_deliver : Room := { frames := 4, cells := 0, slots := 0, locals := 103 }
abbrev b_MD_lose : ByteArray := prog_8_method_7_code
def y_MD_lose : MethodName := ⟨R_MD, "lose", "(I)Z"⟩
def w_MD_lose : List Cond := .code y_MD_lose b_MD_lose 2 (some .boolean) :: fw_ws
abbrev r_MD_lose : Room := { frames := 1, cells := 0, slots := 0, locals := 22 }
abbrev b_MD_flight : ByteArray := prog_8_method_8_code
def y_MD_flight : MethodName := ⟨R_MD, "flight", "()I"⟩
def w_MD_flight : List Cond := .code y_MD_flight b_MD_flight 1 (some .int) :: fw_ws
abbrev r_MD_flight : Room := { frames := 0, cells := 0, slots := 0, locals := 0 }
abbrev b_MD_message : ByteArray := prog_8_method_9_code
def y_MD_message : MethodName := ⟨R_MD, "message", "(II)I"⟩
def w_MD_message : List Cond := .code y_MD_message b_MD_message 3 (some .int) :: fw_ws
abbrev r_MD_message : Room := { frames := 1, cells := 0, slots := 0, locals := 21 }
abbrev b_MD_spread : ByteArray := prog_8_method_14_code
def y_MD_spread : MethodName := ⟨R_MD, "spread", "(I)I"⟩
def w_MD_spread : List Cond := .code y_MD_spread b_MD_spread 5 (some .int) :: fw_ws
abbrev r_MD_spread : Room := { frames := 1, cells := 0, slots := 0, locals := 28 }
abbrev b_MD_add : ByteArray := prog_8_method_15_code
def y_MD_add : MethodName := ⟨R_MD, "add", "(I)I"⟩
def w_MD_add : List Cond := .code y_MD_add b_MD_add 4 (some .int) :: fw_ws
abbrev r_MD_add : Room := { frames := 2, cells := 0, slots := 0, locals := 52 }
abbrev b_MD_resend : ByteArray := prog_8_method_16_code
def y_MD_resend : MethodName := ⟨R_MD, "resend", "(I)I"⟩
def w_MD_resend : List Cond := .code y_MD_resend b_MD_resend 2 (some .int) :: fw_ws
abbrev r_MD_resend : Room := { frames := 2, cells := 0, slots := 0, locals := 52 }
abbrev b_MD_close : ByteArray := prog_8_method_17_code
def y_MD_close : MethodName := ⟨R_MD, "close", "()Z"⟩
def w_MD_close : List Cond := .code y_MD_close b_MD_close 1 (some .boolean) :: fw_ws
abbrev r_MD_close : Room := { frames := 0, cells := 0, slots := 0, locals := 0 }
abbrev b_MD_leave : ByteArray := prog_8_method_18_code
def y_MD_leave : MethodName := ⟨R_MD, "leave", "()Z"⟩
def w_MD_leave : List Cond := .code y_MD_leave b_MD_leave 2 (some .boolean) :: fw_ws
abbrev r_MD_leave : Room := { frames := 0, cells := 0, slots := 0, locals := 0 }
abbrev b_MD_isRecoverer : ByteArray := prog_8_method_26_code
def y_MD_isRecoverer : MethodName := ⟨R_MD, "isRecoverer", "(I)Z"⟩
def w_MD_isRecoverer : List Cond := .code y_MD_isRecoverer b_MD_isRecoverer 1 (some .boolean) :: fw_ws
abbrev r_MD_isRecoverer : Room := { frames := 0, cells := 0, slots := 0, locals := 0 }
abbrev b_MD_recover : ByteArray := prog_8_method_27_code
def y_MD_recover : MethodName := ⟨R_MD, "recover", "(I)Z"⟩
def w_MD_recover : List Cond := .code y_MD_recover b_MD_recover 3 (some .boolean) :: fw_ws
abbrev r_MD_recover : Room := { frames := 2, cells := 0, slots := 0, locals := 53 }
abbrev b_MD_busy : ByteArray := prog_8_method_28_code
def y_MD_busy : MethodName := ⟨R_MD, "busy", "(I)Z"⟩
def w_MD_busy : List Cond := .code y_MD_busy b_MD_busy 2 (some .boolean) :: fw_ws
abbrev r_MD_busy : Room := { frames := 1, cells := 0, slots := 0, locals := 20 }
abbrev b_MD_retry : ByteArray := prog_8_method_29_code
def y_MD_retry : MethodName := ⟨R_MD, "retry", "(I)I"⟩
def w_MD_retry : List Cond := .code y_MD_retry b_MD_retry 2 (some .int) :: fw_ws
abbrev r_MD_retry : Room := { frames := 2, cells := 0, slots := 0, locals := 53 }
abbrev b_MD_abandon : ByteArray := prog_8_method_30_code
def y_MD_abandon : MethodName := ⟨R_MD, "abandon", "(I)Z"⟩
def w_MD_abandon : List Cond := .code y_MD_abandon b_MD_abandon 2 (some .boolean) :: fw_ws
abbrev r_MD_abandon : Room := { frames := 2, cells := 0, slots := 0, locals := 41 }
abbrev b_MD_isStore : ByteArray := prog_8_method_31_code
def y_MD_isStore : MethodName := ⟨R_MD, "isStore", "(I)Z"⟩
def w_MD_isStore : List Cond := .code y_MD_isStore b_MD_isStore 2 (some .boolean) :: fw_ws
abbrev r_MD_isStore : Room := { frames := 0, cells := 0, slots := 0, locals := 0 }
abbrev b_MD_power : ByteArray := prog_8_method_32_code
def y_MD_power : MethodName := ⟨R_MD, "power", "(IZ)Z"⟩
def w_MD_power : List Cond := .code y_MD_power b_MD_power 4 (some .boolean) :: fw_ws
abbrev r_MD_power : Room := { frames := 1, cells := 0, slots := 0, locals := 21 }
abbrev b_MD_store : ByteArray := prog_8_method_33_code
def y_MD_store : MethodName := ⟨R_MD, "store", "(II)I"⟩
def w_MD_store : List Cond := .code y_MD_store b_MD_store 5 (some .int) :: fw_ws
abbrev r_MD_store : Room := { frames := 1, cells := 0, slots := 0, locals := 21 }
abbrev b_MD_has : ByteArray := prog_8_method_34_code
def y_MD_has : MethodName := ⟨R_MD, "has", "(II)Z"⟩
def w_MD_has : List Cond := .code y_MD_has b_MD_has 3 (some .boolean) :: fw_ws
abbrev r_MD_has : Room := { frames := 1, cells := 0, slots := 0, locals := 21 }
abbrev b_MD_writer : ByteArray := prog_8_method_35_code
def y_MD_writer : MethodName := ⟨R_MD, "writer", "(I)I"⟩
def w_MD_writer : List Cond := .code y_MD_writer b_MD_writer 2 (some .int) :: fw_ws
abbrev r_MD_writer : Room := { frames := 0, cells := 0, slots := 0, locals := 0 }
abbrev b_MD_answers : ByteArray := prog_8_method_36_code
def y_MD_answers : MethodName := ⟨R_MD, "answers", "(I)I"⟩
def w_MD_answers : List Cond := .code y_MD_answers b_MD_answers 2 (some .int) :: fw_ws
abbrev r_MD_answers : Room := { frames := 1, cells := 0, slots := 0, locals := 23 }
abbrev b_MD_recoverer : ByteArray := prog_8_method_37_code
def y_MD_recoverer : MethodName := ⟨R_MD, "recoverer", "(II)I"⟩
def w_MD_recoverer : List Cond := .code y_MD_recoverer b_MD_recoverer 3 (some .int) :: fw_ws
abbrev r_MD_recoverer : Room := { frames := 1, cells := 0, slots := 0, locals := 23 }
abbrev b_MD_ledger : ByteArray := prog_8_method_38_code
def y_MD_ledger : MethodName := ⟨R_MD, "ledger", "(I)I"⟩
def w_MD_ledger : List Cond := .code y_MD_ledger b_MD_ledger 2 (some .int) :: fw_ws
abbrev r_MD_ledger : Room := { frames := 0, cells := 0, slots := 0, locals := 0 }
abbrev b_MD_read : ByteArray := prog_8_method_39_code
def y_MD_read : MethodName := ⟨R_MD, "read", "(I)I"⟩
def w_MD_read : List Cond := .code y_MD_read b_MD_read 4 (some .int) :: fw_ws
abbrev r_MD_read : Room := { frames := 0, cells := 0, slots := 0, locals := 0 }
theorem wq_1_1 : (Jvm.Cond.initialized "FencedLedger") ∈ fw_ws := List.mem_filter.mpr ⟨fw_in1 (List.mem_of_getElem? (l := tables_1_1) (i := 1) rfl), rfl⟩
theorem wq_1_2 : (Jvm.Cond.initialized "java/lang/Math") ∈ fw_ws := List.mem_filter.mpr ⟨fw_in1 (List.mem_of_getElem? (l := tables_1_1) (i := 2) rfl), rfl⟩
theorem wq_1_3 : (Jvm.Cond.initialized "FencedLedger$Store") ∈ fw_ws := List.mem_filter.mpr ⟨fw_in1 (List.mem_of_getElem? (l := tables_1_1) (i := 3) rfl), rfl⟩
theorem wq_1_4 : (Jvm.Cond.initialized "FencedLedger$Channel") ∈ fw_ws := List.mem_filter.mpr ⟨fw_in1 (List.mem_of_getElem? (l := tables_1_1) (i := 4) rfl), rfl⟩
theorem wq_1_5 : (Jvm.Cond.initialized "FencedLedger$Message") ∈ fw_ws := List.mem_filter.mpr ⟨fw_in1 (List.mem_of_getElem? (l := tables_1_1) (i := 5) rfl), rfl⟩
theorem wq_1_6 : (Jvm.Cond.initialized "FencedLedger$Writer") ∈ fw_ws := List.mem_filter.mpr ⟨fw_in1 (List.mem_of_getElem? (l := tables_1_1) (i := 6) rfl), rfl⟩
theorem wq_1_7 : (Jvm.Cond.initialized "FencedLedger$Recoverer") ∈ fw_ws := List.mem_filter.mpr ⟨fw_in1 (List.mem_of_getElem? (l := tables_1_1) (i := 7) rfl), rfl⟩
theorem wq_1_8 : (Jvm.Cond.initialized "FencedLedgerModel") ∈ fw_ws := List.mem_filter.mpr ⟨fw_in1 (List.mem_of_getElem? (l := tables_1_1) (i := 8) rfl), rfl⟩
theorem wq_1_12 : (Jvm.Cond.initialized "java/lang/IllegalStateException") ∈ fw_ws := List.mem_filter.mpr ⟨fw_in1 (List.mem_of_getElem? (l := tables_1_1) (i := 12) rfl), rfl⟩
theorem wq_1_13 : (Jvm.Cond.initialized "java/lang/IndexOutOfBoundsException") ∈ fw_ws := List.mem_filter.mpr ⟨fw_in1 (List.mem_of_getElem? (l := tables_1_1) (i := 13) rfl), rfl⟩
theorem wq_1_14 : (Jvm.Cond.initialized "java/lang/Integer") ∈ fw_ws := List.mem_filter.mpr ⟨fw_in1 (List.mem_of_getElem? (l := tables_1_1) (i := 14) rfl), rfl⟩
theorem wq_1_15 : (Jvm.Cond.initialized "java/lang/UnsupportedOperationException") ∈ fw_ws := List.mem_filter.mpr ⟨fw_in1 (List.mem_of_getElem? (l := tables_1_1) (i := 15) rfl), rfl⟩
theorem wq_1_21 : (Jvm.Cond.methodLink "FencedLedger" (1 : Nat) ({ cls := "java/lang/Object", name := "<init>", desc := "()V" } : Jvm.MethodName)) ∈ fw_ws := List.mem_filter.mpr ⟨fw_in1 (List.mem_of_getElem? (l := tables_1_1) (i := 21) rfl), rfl⟩
theorem wq_1_22 : (Jvm.Cond.instanceMethod ({ cls := "java/lang/Object", name := "<init>", desc := "()V" } : Jvm.MethodName)) ∈ fw_ws := List.mem_filter.mpr ⟨fw_in1 (List.mem_of_getElem? (l := tables_1_1) (i := 22) rfl), rfl⟩
theorem wq_1_23 : (Jvm.Cond.code ({ cls := "java/lang/Object", name := "<init>", desc := "()V" } : Jvm.MethodName) object_method_1_code (1 : Nat) (Option.none : Option Jvm.ClassFile.FieldType)) ∈ fw_ws := List.mem_filter.mpr ⟨fw_in1 (List.mem_of_getElem? (l := tables_1_1) (i := 23) rfl), rfl⟩
theorem wq_1_24 : (Jvm.Cond.methodLink "FencedLedger" (7 : Nat) ({ cls := "FencedLedger", name := "nearest", desc := "(III)I" } : Jvm.MethodName)) ∈ fw_ws := List.mem_filter.mpr ⟨fw_in1 (List.mem_of_getElem? (l := tables_1_1) (i := 24) rfl), rfl⟩
theorem wq_1_25 : (Jvm.Cond.static ({ cls := "FencedLedger", name := "nearest", desc := "(III)I" } : Jvm.MethodName)) ∈ fw_ws := List.mem_filter.mpr ⟨fw_in1 (List.mem_of_getElem? (l := tables_1_1) (i := 25) rfl), rfl⟩
theorem wq_1_26 : (Jvm.Cond.code ({ cls := "FencedLedger", name := "nearest", desc := "(III)I" } : Jvm.MethodName) prog_1_method_21_code (3 : Nat) (Option.some Jvm.ClassFile.FieldType.int)) ∈ fw_ws := List.mem_filter.mpr ⟨fw_in1 (List.mem_of_getElem? (l := tables_1_1) (i := 26) rfl), rfl⟩
theorem wq_1_27 : (Jvm.Cond.methodLink "FencedLedger" (189 : Nat) ({ cls := "java/lang/Math", name := "min", desc := "(II)I" } : Jvm.MethodName)) ∈ fw_ws := List.mem_filter.mpr ⟨fw_in1 (List.mem_of_getElem? (l := tables_1_1) (i := 27) rfl), rfl⟩
theorem wq_1_28 : (Jvm.Cond.static ({ cls := "java/lang/Math", name := "min", desc := "(II)I" } : Jvm.MethodName)) ∈ fw_ws := List.mem_filter.mpr ⟨fw_in1 (List.mem_of_getElem? (l := tables_1_1) (i := 28) rfl), rfl⟩
theorem wq_1_29 : (Jvm.Cond.code ({ cls := "java/lang/Math", name := "min", desc := "(II)I" } : Jvm.MethodName) prog_13_method_69_code (2 : Nat) (Option.some Jvm.ClassFile.FieldType.int)) ∈ fw_ws := List.mem_filter.mpr ⟨fw_in1 (List.mem_of_getElem? (l := tables_1_1) (i := 29) rfl), rfl⟩
theorem wq_1_30 : (Jvm.Cond.methodLink "FencedLedger" (195 : Nat) ({ cls := "java/lang/Math", name := "max", desc := "(II)I" } : Jvm.MethodName)) ∈ fw_ws := List.mem_filter.mpr ⟨fw_in1 (List.mem_of_getElem? (l := tables_1_1) (i := 30) rfl), rfl⟩
theorem wq_1_31 : (Jvm.Cond.static ({ cls := "java/lang/Math", name := "max", desc := "(II)I" } : Jvm.MethodName)) ∈ fw_ws := List.mem_filter.mpr ⟨fw_in1 (List.mem_of_getElem? (l := tables_1_1) (i := 31) rfl), rfl⟩
theorem wq_1_32 : (Jvm.Cond.code ({ cls := "java/lang/Math", name := "max", desc := "(II)I" } : Jvm.MethodName) prog_13_method_65_code (2 : Nat) (Option.some Jvm.ClassFile.FieldType.int)) ∈ fw_ws := List.mem_filter.mpr ⟨fw_in1 (List.mem_of_getElem? (l := tables_1_1) (i := 32) rfl), rfl⟩
theorem wq_1_33 : (Jvm.Cond.classLink "FencedLedger" (23 : Nat) "FencedLedger$Store") ∈ fw_ws := List.mem_filter.mpr ⟨fw_in1 (List.mem_of_getElem? (l := tables_1_1) (i := 33) rfl), rfl⟩
theorem wq_1_35 : (Jvm.Cond.instantiable "FencedLedger$Store" (6 : Nat)) ∈ fw_ws := List.mem_filter.mpr ⟨fw_in1 (List.mem_of_getElem? (l := tables_1_1) (i := 35) rfl), rfl⟩
theorem wq_1_37 : (Jvm.Cond.instanceMethod ({ cls := "FencedLedger$Store", name := "<init>", desc := "()V" } : Jvm.MethodName)) ∈ fw_ws := List.mem_filter.mpr ⟨fw_in1 (List.mem_of_getElem? (l := tables_1_1) (i := 37) rfl), rfl⟩
theorem wq_1_38 : (Jvm.Cond.code ({ cls := "FencedLedger$Store", name := "<init>", desc := "()V" } : Jvm.MethodName) prog_5_method_1_code (1 : Nat) (Option.none : Option Jvm.ClassFile.FieldType)) ∈ fw_ws := List.mem_filter.mpr ⟨fw_in1 (List.mem_of_getElem? (l := tables_1_1) (i := 38) rfl), rfl⟩
theorem wq_1_39 : (Jvm.Cond.methodLink "FencedLedger$Store" (3 : Nat) ({ cls := "java/lang/Object", name := "<init>", desc := "()V" } : Jvm.MethodName)) ∈ fw_ws := List.mem_filter.mpr ⟨fw_in1 (List.mem_of_getElem? (l := tables_1_1) (i := 39) rfl), rfl⟩
theorem wq_1_40 : (Jvm.Cond.fieldLink "FencedLedger$Store" (9 : Nat) "FencedLedger$Store" "kept" "[Z") ∈ fw_ws := List.mem_filter.mpr ⟨fw_in1 (List.mem_of_getElem? (l := tables_1_1) (i := 40) rfl), rfl⟩
theorem wq_1_42 : (Jvm.Cond.fieldLink "FencedLedger$Store" (15 : Nat) "FencedLedger$Store" "values" "[I") ∈ fw_ws := List.mem_filter.mpr ⟨fw_in1 (List.mem_of_getElem? (l := tables_1_1) (i := 42) rfl), rfl⟩
theorem wq_1_44 : (Jvm.Cond.fieldLink "FencedLedger$Store" (19 : Nat) "FencedLedger$Store" "up" "Z") ∈ fw_ws := List.mem_filter.mpr ⟨fw_in1 (List.mem_of_getElem? (l := tables_1_1) (i := 44) rfl), rfl⟩
theorem wq_1_46 : (Jvm.Cond.fieldLink "FencedLedger$Store" (23 : Nat) "FencedLedger$Store" "fenced" "Z") ∈ fw_ws := List.mem_filter.mpr ⟨fw_in1 (List.mem_of_getElem? (l := tables_1_1) (i := 46) rfl), rfl⟩
theorem wq_1_48 : (Jvm.Cond.fieldLink "FencedLedger$Store" (26 : Nat) "FencedLedger$Store" "mark" "I") ∈ fw_ws := List.mem_filter.mpr ⟨fw_in1 (List.mem_of_getElem? (l := tables_1_1) (i := 48) rfl), rfl⟩
theorem wq_1_50 : (Jvm.Cond.fieldLink "FencedLedger$Store" (30 : Nat) "FencedLedger$Store" "keptCount" "I") ∈ fw_ws := List.mem_filter.mpr ⟨fw_in1 (List.mem_of_getElem? (l := tables_1_1) (i := 50) rfl), rfl⟩
theorem wq_1_51 : (Jvm.Cond.laysFinal "FencedLedger$Store" "FencedLedger$Store" "kept" "[Z") ∈ fw_ws := List.mem_filter.mpr ⟨fw_in1 (List.mem_of_getElem? (l := tables_1_1) (i := 51) rfl), rfl⟩
theorem wq_1_53 : (Jvm.Cond.laysFinal "FencedLedger$Store" "FencedLedger$Store" "values" "[I") ∈ fw_ws := List.mem_filter.mpr ⟨fw_in1 (List.mem_of_getElem? (l := tables_1_1) (i := 53) rfl), rfl⟩
theorem wq_1_55 : (Jvm.Cond.lays "FencedLedger$Store" "FencedLedger$Store" "up" "Z") ∈ fw_ws := List.mem_filter.mpr ⟨fw_in1 (List.mem_of_getElem? (l := tables_1_1) (i := 55) rfl), rfl⟩
theorem wq_1_57 : (Jvm.Cond.lays "FencedLedger$Store" "FencedLedger$Store" "fenced" "Z") ∈ fw_ws := List.mem_filter.mpr ⟨fw_in1 (List.mem_of_getElem? (l := tables_1_1) (i := 57) rfl), rfl⟩
theorem wq_1_59 : (Jvm.Cond.lays "FencedLedger$Store" "FencedLedger$Store" "mark" "I") ∈ fw_ws := List.mem_filter.mpr ⟨fw_in1 (List.mem_of_getElem? (l := tables_1_1) (i := 59) rfl), rfl⟩
theorem wq_1_61 : (Jvm.Cond.lays "FencedLedger$Store" "FencedLedger$Store" "keptCount" "I") ∈ fw_ws := List.mem_filter.mpr ⟨fw_in1 (List.mem_of_getElem? (l := tables_1_1) (i := 61) rfl), rfl⟩
theorem wq_1_64 : (Jvm.Cond.arrayClass Jvm.ClassFile.FieldType.boolean) ∈ fw_ws := List.mem_filter.mpr ⟨fw_in1 (List.mem_of_getElem? (l := tables_1_1) (i := 64) rfl), rfl⟩
theorem wq_1_65 : (Jvm.Cond.arrayClass Jvm.ClassFile.FieldType.int) ∈ fw_ws := List.mem_filter.mpr ⟨fw_in1 (List.mem_of_getElem? (l := tables_1_1) (i := 65) rfl), rfl⟩
theorem wq_1_66 : (Jvm.Cond.classLink "FencedLedger" (30 : Nat) "FencedLedger$Channel") ∈ fw_ws := List.mem_filter.mpr ⟨fw_in1 (List.mem_of_getElem? (l := tables_1_1) (i := 66) rfl), rfl⟩
theorem wq_1_67 : (Jvm.Cond.instantiable "FencedLedger$Channel" (3 : Nat)) ∈ fw_ws := List.mem_filter.mpr ⟨fw_in1 (List.mem_of_getElem? (l := tables_1_1) (i := 67) rfl), rfl⟩
theorem wq_1_69 : (Jvm.Cond.instanceMethod ({ cls := "FencedLedger$Channel", name := "<init>", desc := "()V" } : Jvm.MethodName)) ∈ fw_ws := List.mem_filter.mpr ⟨fw_in1 (List.mem_of_getElem? (l := tables_1_1) (i := 69) rfl), rfl⟩
theorem wq_1_70 : (Jvm.Cond.code ({ cls := "FencedLedger$Channel", name := "<init>", desc := "()V" } : Jvm.MethodName) prog_2_method_1_code (2 : Nat) (Option.none : Option Jvm.ClassFile.FieldType)) ∈ fw_ws := List.mem_filter.mpr ⟨fw_in1 (List.mem_of_getElem? (l := tables_1_1) (i := 70) rfl), rfl⟩
theorem wq_1_71 : (Jvm.Cond.methodLink "FencedLedger$Channel" (3 : Nat) ({ cls := "java/lang/Object", name := "<init>", desc := "()V" } : Jvm.MethodName)) ∈ fw_ws := List.mem_filter.mpr ⟨fw_in1 (List.mem_of_getElem? (l := tables_1_1) (i := 71) rfl), rfl⟩
theorem wq_1_72 : (Jvm.Cond.classLink "FencedLedger$Channel" (9 : Nat) "FencedLedger$Message") ∈ fw_ws := List.mem_filter.mpr ⟨fw_in1 (List.mem_of_getElem? (l := tables_1_1) (i := 72) rfl), rfl⟩
theorem wq_1_74 : (Jvm.Cond.instantiable "FencedLedger$Message" (7 : Nat)) ∈ fw_ws := List.mem_filter.mpr ⟨fw_in1 (List.mem_of_getElem? (l := tables_1_1) (i := 74) rfl), rfl⟩
theorem wq_1_76 : (Jvm.Cond.instanceMethod ({ cls := "FencedLedger$Message", name := "<init>", desc := "()V" } : Jvm.MethodName)) ∈ fw_ws := List.mem_filter.mpr ⟨fw_in1 (List.mem_of_getElem? (l := tables_1_1) (i := 76) rfl), rfl⟩
theorem wq_1_77 : (Jvm.Cond.code ({ cls := "FencedLedger$Message", name := "<init>", desc := "()V" } : Jvm.MethodName) prog_3_method_1_code (1 : Nat) (Option.none : Option Jvm.ClassFile.FieldType)) ∈ fw_ws := List.mem_filter.mpr ⟨fw_in1 (List.mem_of_getElem? (l := tables_1_1) (i := 77) rfl), rfl⟩
theorem wq_1_78 : (Jvm.Cond.methodLink "FencedLedger$Message" (3 : Nat) ({ cls := "java/lang/Object", name := "<init>", desc := "()V" } : Jvm.MethodName)) ∈ fw_ws := List.mem_filter.mpr ⟨fw_in1 (List.mem_of_getElem? (l := tables_1_1) (i := 78) rfl), rfl⟩
theorem wq_1_79 : (Jvm.Cond.fieldLink "FencedLedger$Message" (9 : Nat) "FencedLedger$Message" "kind" "I") ∈ fw_ws := List.mem_filter.mpr ⟨fw_in1 (List.mem_of_getElem? (l := tables_1_1) (i := 79) rfl), rfl⟩
theorem wq_1_83 : (Jvm.Cond.fieldLink "FencedLedger$Message" (15 : Nat) "FencedLedger$Message" "client" "I") ∈ fw_ws := List.mem_filter.mpr ⟨fw_in1 (List.mem_of_getElem? (l := tables_1_1) (i := 83) rfl), rfl⟩
theorem wq_1_86 : (Jvm.Cond.fieldLink "FencedLedger$Message" (18 : Nat) "FencedLedger$Message" "store" "I") ∈ fw_ws := List.mem_filter.mpr ⟨fw_in1 (List.mem_of_getElem? (l := tables_1_1) (i := 86) rfl), rfl⟩
theorem wq_1_90 : (Jvm.Cond.fieldLink "FencedLedger$Message" (21 : Nat) "FencedLedger$Message" "entry" "I") ∈ fw_ws := List.mem_filter.mpr ⟨fw_in1 (List.mem_of_getElem? (l := tables_1_1) (i := 90) rfl), rfl⟩
theorem wq_1_94 : (Jvm.Cond.fieldLink "FencedLedger$Message" (24 : Nat) "FencedLedger$Message" "value" "I") ∈ fw_ws := List.mem_filter.mpr ⟨fw_in1 (List.mem_of_getElem? (l := tables_1_1) (i := 94) rfl), rfl⟩
theorem wq_1_97 : (Jvm.Cond.fieldLink "FencedLedger$Message" (27 : Nat) "FencedLedger$Message" "term" "I") ∈ fw_ws := List.mem_filter.mpr ⟨fw_in1 (List.mem_of_getElem? (l := tables_1_1) (i := 97) rfl), rfl⟩
theorem wq_1_100 : (Jvm.Cond.fieldLink "FencedLedger$Message" (30 : Nat) "FencedLedger$Message" "mark" "I") ∈ fw_ws := List.mem_filter.mpr ⟨fw_in1 (List.mem_of_getElem? (l := tables_1_1) (i := 100) rfl), rfl⟩
theorem wq_1_103 : (Jvm.Cond.lays "FencedLedger$Message" "FencedLedger$Message" "kind" "I") ∈ fw_ws := List.mem_filter.mpr ⟨fw_in1 (List.mem_of_getElem? (l := tables_1_1) (i := 103) rfl), rfl⟩
theorem wq_1_105 : (Jvm.Cond.lays "FencedLedger$Message" "FencedLedger$Message" "client" "I") ∈ fw_ws := List.mem_filter.mpr ⟨fw_in1 (List.mem_of_getElem? (l := tables_1_1) (i := 105) rfl), rfl⟩
theorem wq_1_107 : (Jvm.Cond.lays "FencedLedger$Message" "FencedLedger$Message" "store" "I") ∈ fw_ws := List.mem_filter.mpr ⟨fw_in1 (List.mem_of_getElem? (l := tables_1_1) (i := 107) rfl), rfl⟩
theorem wq_1_109 : (Jvm.Cond.lays "FencedLedger$Message" "FencedLedger$Message" "entry" "I") ∈ fw_ws := List.mem_filter.mpr ⟨fw_in1 (List.mem_of_getElem? (l := tables_1_1) (i := 109) rfl), rfl⟩
theorem wq_1_111 : (Jvm.Cond.lays "FencedLedger$Message" "FencedLedger$Message" "value" "I") ∈ fw_ws := List.mem_filter.mpr ⟨fw_in1 (List.mem_of_getElem? (l := tables_1_1) (i := 111) rfl), rfl⟩
theorem wq_1_113 : (Jvm.Cond.lays "FencedLedger$Message" "FencedLedger$Message" "term" "I") ∈ fw_ws := List.mem_filter.mpr ⟨fw_in1 (List.mem_of_getElem? (l := tables_1_1) (i := 113) rfl), rfl⟩
theorem wq_1_115 : (Jvm.Cond.lays "FencedLedger$Message" "FencedLedger$Message" "mark" "I") ∈ fw_ws := List.mem_filter.mpr ⟨fw_in1 (List.mem_of_getElem? (l := tables_1_1) (i := 115) rfl), rfl⟩
theorem wq_1_118 : (Jvm.Cond.fieldLink "FencedLedger$Channel" (11 : Nat) "FencedLedger$Channel" "rows" "[LFencedLedger$Message;") ∈ fw_ws := List.mem_filter.mpr ⟨fw_in1 (List.mem_of_getElem? (l := tables_1_1) (i := 118) rfl), rfl⟩
theorem wq_1_120 : (Jvm.Cond.fieldLink "FencedLedger$Channel" (18 : Nat) "FencedLedger$Channel" "taken" "LFencedLedger$Message;") ∈ fw_ws := List.mem_filter.mpr ⟨fw_in1 (List.mem_of_getElem? (l := tables_1_1) (i := 120) rfl), rfl⟩
theorem wq_1_121 : (Jvm.Cond.fieldLink "FencedLedger$Channel" (22 : Nat) "FencedLedger$Channel" "count" "I") ∈ fw_ws := List.mem_filter.mpr ⟨fw_in1 (List.mem_of_getElem? (l := tables_1_1) (i := 121) rfl), rfl⟩
theorem wq_1_123 : (Jvm.Cond.laysFinal "FencedLedger$Channel" "FencedLedger$Channel" "rows" "[LFencedLedger$Message;") ∈ fw_ws := List.mem_filter.mpr ⟨fw_in1 (List.mem_of_getElem? (l := tables_1_1) (i := 123) rfl), rfl⟩
theorem wq_1_125 : (Jvm.Cond.lays "FencedLedger$Channel" "FencedLedger$Channel" "taken" "LFencedLedger$Message;") ∈ fw_ws := List.mem_filter.mpr ⟨fw_in1 (List.mem_of_getElem? (l := tables_1_1) (i := 125) rfl), rfl⟩
theorem wq_1_127 : (Jvm.Cond.lays "FencedLedger$Channel" "FencedLedger$Channel" "count" "I") ∈ fw_ws := List.mem_filter.mpr ⟨fw_in1 (List.mem_of_getElem? (l := tables_1_1) (i := 127) rfl), rfl⟩
theorem wq_1_130 : (Jvm.Cond.classLink "FencedLedger" (37 : Nat) "FencedLedger$Writer") ∈ fw_ws := List.mem_filter.mpr ⟨fw_in1 (List.mem_of_getElem? (l := tables_1_1) (i := 130) rfl), rfl⟩
theorem wq_1_131 : (Jvm.Cond.instantiable "FencedLedger$Writer" (5 : Nat)) ∈ fw_ws := List.mem_filter.mpr ⟨fw_in1 (List.mem_of_getElem? (l := tables_1_1) (i := 131) rfl), rfl⟩
theorem wq_1_133 : (Jvm.Cond.instanceMethod ({ cls := "FencedLedger$Writer", name := "<init>", desc := "()V" } : Jvm.MethodName)) ∈ fw_ws := List.mem_filter.mpr ⟨fw_in1 (List.mem_of_getElem? (l := tables_1_1) (i := 133) rfl), rfl⟩
theorem wq_1_134 : (Jvm.Cond.code ({ cls := "FencedLedger$Writer", name := "<init>", desc := "()V" } : Jvm.MethodName) prog_6_method_1_code (1 : Nat) (Option.none : Option Jvm.ClassFile.FieldType)) ∈ fw_ws := List.mem_filter.mpr ⟨fw_in1 (List.mem_of_getElem? (l := tables_1_1) (i := 134) rfl), rfl⟩
theorem wq_1_135 : (Jvm.Cond.methodLink "FencedLedger$Writer" (3 : Nat) ({ cls := "java/lang/Object", name := "<init>", desc := "()V" } : Jvm.MethodName)) ∈ fw_ws := List.mem_filter.mpr ⟨fw_in1 (List.mem_of_getElem? (l := tables_1_1) (i := 135) rfl), rfl⟩
theorem wq_1_136 : (Jvm.Cond.fieldLink "FencedLedger$Writer" (9 : Nat) "FencedLedger$Writer" "values" "[I") ∈ fw_ws := List.mem_filter.mpr ⟨fw_in1 (List.mem_of_getElem? (l := tables_1_1) (i := 136) rfl), rfl⟩
theorem wq_1_138 : (Jvm.Cond.fieldLink "FencedLedger$Writer" (15 : Nat) "FencedLedger$Writer" "answered" "[I") ∈ fw_ws := List.mem_filter.mpr ⟨fw_in1 (List.mem_of_getElem? (l := tables_1_1) (i := 138) rfl), rfl⟩
theorem wq_1_140 : (Jvm.Cond.fieldLink "FencedLedger$Writer" (18 : Nat) "FencedLedger$Writer" "state" "I") ∈ fw_ws := List.mem_filter.mpr ⟨fw_in1 (List.mem_of_getElem? (l := tables_1_1) (i := 140) rfl), rfl⟩
theorem wq_1_142 : (Jvm.Cond.fieldLink "FencedLedger$Writer" (22 : Nat) "FencedLedger$Writer" "entryCount" "I") ∈ fw_ws := List.mem_filter.mpr ⟨fw_in1 (List.mem_of_getElem? (l := tables_1_1) (i := 142) rfl), rfl⟩
theorem wq_1_144 : (Jvm.Cond.fieldLink "FencedLedger$Writer" (25 : Nat) "FencedLedger$Writer" "lac" "I") ∈ fw_ws := List.mem_filter.mpr ⟨fw_in1 (List.mem_of_getElem? (l := tables_1_1) (i := 144) rfl), rfl⟩
theorem wq_1_146 : (Jvm.Cond.laysFinal "FencedLedger$Writer" "FencedLedger$Writer" "values" "[I") ∈ fw_ws := List.mem_filter.mpr ⟨fw_in1 (List.mem_of_getElem? (l := tables_1_1) (i := 146) rfl), rfl⟩
theorem wq_1_148 : (Jvm.Cond.laysFinal "FencedLedger$Writer" "FencedLedger$Writer" "answered" "[I") ∈ fw_ws := List.mem_filter.mpr ⟨fw_in1 (List.mem_of_getElem? (l := tables_1_1) (i := 148) rfl), rfl⟩
theorem wq_1_150 : (Jvm.Cond.lays "FencedLedger$Writer" "FencedLedger$Writer" "state" "I") ∈ fw_ws := List.mem_filter.mpr ⟨fw_in1 (List.mem_of_getElem? (l := tables_1_1) (i := 150) rfl), rfl⟩
theorem wq_1_152 : (Jvm.Cond.lays "FencedLedger$Writer" "FencedLedger$Writer" "entryCount" "I") ∈ fw_ws := List.mem_filter.mpr ⟨fw_in1 (List.mem_of_getElem? (l := tables_1_1) (i := 152) rfl), rfl⟩
theorem wq_1_154 : (Jvm.Cond.lays "FencedLedger$Writer" "FencedLedger$Writer" "lac" "I") ∈ fw_ws := List.mem_filter.mpr ⟨fw_in1 (List.mem_of_getElem? (l := tables_1_1) (i := 154) rfl), rfl⟩
theorem wq_1_157 : (Jvm.Cond.classLink "FencedLedger" (44 : Nat) "FencedLedger$Recoverer") ∈ fw_ws := List.mem_filter.mpr ⟨fw_in1 (List.mem_of_getElem? (l := tables_1_1) (i := 157) rfl), rfl⟩
theorem wq_1_159 : (Jvm.Cond.instantiable "FencedLedger$Recoverer" (7 : Nat)) ∈ fw_ws := List.mem_filter.mpr ⟨fw_in1 (List.mem_of_getElem? (l := tables_1_1) (i := 159) rfl), rfl⟩
theorem wq_1_161 : (Jvm.Cond.instanceMethod ({ cls := "FencedLedger$Recoverer", name := "<init>", desc := "(I)V" } : Jvm.MethodName)) ∈ fw_ws := List.mem_filter.mpr ⟨fw_in1 (List.mem_of_getElem? (l := tables_1_1) (i := 161) rfl), rfl⟩
theorem wq_1_162 : (Jvm.Cond.code ({ cls := "FencedLedger$Recoverer", name := "<init>", desc := "(I)V" } : Jvm.MethodName) prog_4_method_1_code (2 : Nat) (Option.none : Option Jvm.ClassFile.FieldType)) ∈ fw_ws := List.mem_filter.mpr ⟨fw_in1 (List.mem_of_getElem? (l := tables_1_1) (i := 162) rfl), rfl⟩
theorem wq_1_163 : (Jvm.Cond.methodLink "FencedLedger$Recoverer" (3 : Nat) ({ cls := "java/lang/Object", name := "<init>", desc := "()V" } : Jvm.MethodName)) ∈ fw_ws := List.mem_filter.mpr ⟨fw_in1 (List.mem_of_getElem? (l := tables_1_1) (i := 163) rfl), rfl⟩
theorem wq_1_164 : (Jvm.Cond.fieldLink "FencedLedger$Recoverer" (30 : Nat) "FencedLedger$Recoverer" "client" "I") ∈ fw_ws := List.mem_filter.mpr ⟨fw_in1 (List.mem_of_getElem? (l := tables_1_1) (i := 164) rfl), rfl⟩
theorem wq_1_166 : (Jvm.Cond.fieldLink "FencedLedger$Recoverer" (9 : Nat) "FencedLedger$Recoverer" "state" "I") ∈ fw_ws := List.mem_filter.mpr ⟨fw_in1 (List.mem_of_getElem? (l := tables_1_1) (i := 166) rfl), rfl⟩
theorem wq_1_168 : (Jvm.Cond.fieldLink "FencedLedger$Recoverer" (15 : Nat) "FencedLedger$Recoverer" "term" "I") ∈ fw_ws := List.mem_filter.mpr ⟨fw_in1 (List.mem_of_getElem? (l := tables_1_1) (i := 168) rfl), rfl⟩
theorem wq_1_170 : (Jvm.Cond.fieldLink "FencedLedger$Recoverer" (18 : Nat) "FencedLedger$Recoverer" "entry" "I") ∈ fw_ws := List.mem_filter.mpr ⟨fw_in1 (List.mem_of_getElem? (l := tables_1_1) (i := 170) rfl), rfl⟩
theorem wq_1_172 : (Jvm.Cond.fieldLink "FencedLedger$Recoverer" (21 : Nat) "FencedLedger$Recoverer" "answered" "I") ∈ fw_ws := List.mem_filter.mpr ⟨fw_in1 (List.mem_of_getElem? (l := tables_1_1) (i := 172) rfl), rfl⟩
theorem wq_1_174 : (Jvm.Cond.fieldLink "FencedLedger$Recoverer" (24 : Nat) "FencedLedger$Recoverer" "highestMark" "I") ∈ fw_ws := List.mem_filter.mpr ⟨fw_in1 (List.mem_of_getElem? (l := tables_1_1) (i := 174) rfl), rfl⟩
theorem wq_1_176 : (Jvm.Cond.fieldLink "FencedLedger$Recoverer" (27 : Nat) "FencedLedger$Recoverer" "value" "I") ∈ fw_ws := List.mem_filter.mpr ⟨fw_in1 (List.mem_of_getElem? (l := tables_1_1) (i := 176) rfl), rfl⟩
theorem wq_1_178 : (Jvm.Cond.laysFinal "FencedLedger$Recoverer" "FencedLedger$Recoverer" "client" "I") ∈ fw_ws := List.mem_filter.mpr ⟨fw_in1 (List.mem_of_getElem? (l := tables_1_1) (i := 178) rfl), rfl⟩
theorem wq_1_180 : (Jvm.Cond.lays "FencedLedger$Recoverer" "FencedLedger$Recoverer" "state" "I") ∈ fw_ws := List.mem_filter.mpr ⟨fw_in1 (List.mem_of_getElem? (l := tables_1_1) (i := 180) rfl), rfl⟩
theorem wq_1_182 : (Jvm.Cond.lays "FencedLedger$Recoverer" "FencedLedger$Recoverer" "term" "I") ∈ fw_ws := List.mem_filter.mpr ⟨fw_in1 (List.mem_of_getElem? (l := tables_1_1) (i := 182) rfl), rfl⟩
theorem wq_1_184 : (Jvm.Cond.lays "FencedLedger$Recoverer" "FencedLedger$Recoverer" "entry" "I") ∈ fw_ws := List.mem_filter.mpr ⟨fw_in1 (List.mem_of_getElem? (l := tables_1_1) (i := 184) rfl), rfl⟩
theorem wq_1_186 : (Jvm.Cond.lays "FencedLedger$Recoverer" "FencedLedger$Recoverer" "answered" "I") ∈ fw_ws := List.mem_filter.mpr ⟨fw_in1 (List.mem_of_getElem? (l := tables_1_1) (i := 186) rfl), rfl⟩
theorem wq_1_188 : (Jvm.Cond.lays "FencedLedger$Recoverer" "FencedLedger$Recoverer" "highestMark" "I") ∈ fw_ws := List.mem_filter.mpr ⟨fw_in1 (List.mem_of_getElem? (l := tables_1_1) (i := 188) rfl), rfl⟩
theorem wq_1_190 : (Jvm.Cond.lays "FencedLedger$Recoverer" "FencedLedger$Recoverer" "value" "I") ∈ fw_ws := List.mem_filter.mpr ⟨fw_in1 (List.mem_of_getElem? (l := tables_1_1) (i := 190) rfl), rfl⟩
theorem wq_1_193 : (Jvm.Cond.fieldLink "FencedLedger" (13 : Nat) "FencedLedger" "storeCount" "I") ∈ fw_ws := List.mem_filter.mpr ⟨fw_in1 (List.mem_of_getElem? (l := tables_1_1) (i := 193) rfl), rfl⟩
theorem wq_1_194 : (Jvm.Cond.fieldLink "FencedLedger" (17 : Nat) "FencedLedger" "setSize" "I") ∈ fw_ws := List.mem_filter.mpr ⟨fw_in1 (List.mem_of_getElem? (l := tables_1_1) (i := 194) rfl), rfl⟩
theorem wq_1_195 : (Jvm.Cond.fieldLink "FencedLedger" (20 : Nat) "FencedLedger" "quorum" "I") ∈ fw_ws := List.mem_filter.mpr ⟨fw_in1 (List.mem_of_getElem? (l := tables_1_1) (i := 195) rfl), rfl⟩
theorem wq_1_196 : (Jvm.Cond.fieldLink "FencedLedger" (25 : Nat) "FencedLedger" "stores" "[LFencedLedger$Store;") ∈ fw_ws := List.mem_filter.mpr ⟨fw_in1 (List.mem_of_getElem? (l := tables_1_1) (i := 196) rfl), rfl⟩
theorem wq_1_197 : (Jvm.Cond.fieldLink "FencedLedger" (33 : Nat) "FencedLedger" "channel" "LFencedLedger$Channel;") ∈ fw_ws := List.mem_filter.mpr ⟨fw_in1 (List.mem_of_getElem? (l := tables_1_1) (i := 197) rfl), rfl⟩
theorem wq_1_198 : (Jvm.Cond.fieldLink "FencedLedger" (40 : Nat) "FencedLedger" "theWriter" "LFencedLedger$Writer;") ∈ fw_ws := List.mem_filter.mpr ⟨fw_in1 (List.mem_of_getElem? (l := tables_1_1) (i := 198) rfl), rfl⟩
theorem wq_1_199 : (Jvm.Cond.fieldLink "FencedLedger" (46 : Nat) "FencedLedger" "recoverers" "[LFencedLedger$Recoverer;") ∈ fw_ws := List.mem_filter.mpr ⟨fw_in1 (List.mem_of_getElem? (l := tables_1_1) (i := 199) rfl), rfl⟩
theorem wq_1_200 : (Jvm.Cond.fieldLink "FencedLedger" (53 : Nat) "FencedLedger" "ledgerState" "I") ∈ fw_ws := List.mem_filter.mpr ⟨fw_in1 (List.mem_of_getElem? (l := tables_1_1) (i := 200) rfl), rfl⟩
theorem wq_1_201 : (Jvm.Cond.fieldLink "FencedLedger" (56 : Nat) "FencedLedger" "ledgerVersion" "I") ∈ fw_ws := List.mem_filter.mpr ⟨fw_in1 (List.mem_of_getElem? (l := tables_1_1) (i := 201) rfl), rfl⟩
theorem wq_1_202 : (Jvm.Cond.fieldLink "FencedLedger" (59 : Nat) "FencedLedger" "ledgerLast" "I") ∈ fw_ws := List.mem_filter.mpr ⟨fw_in1 (List.mem_of_getElem? (l := tables_1_1) (i := 202) rfl), rfl⟩
theorem wq_1_203 : (Jvm.Cond.laysFinal "FencedLedger" "FencedLedger" "storeCount" "I") ∈ fw_ws := List.mem_filter.mpr ⟨fw_in1 (List.mem_of_getElem? (l := tables_1_1) (i := 203) rfl), rfl⟩
theorem wq_1_205 : (Jvm.Cond.laysFinal "FencedLedger" "FencedLedger" "setSize" "I") ∈ fw_ws := List.mem_filter.mpr ⟨fw_in1 (List.mem_of_getElem? (l := tables_1_1) (i := 205) rfl), rfl⟩
theorem wq_1_207 : (Jvm.Cond.laysFinal "FencedLedger" "FencedLedger" "quorum" "I") ∈ fw_ws := List.mem_filter.mpr ⟨fw_in1 (List.mem_of_getElem? (l := tables_1_1) (i := 207) rfl), rfl⟩
theorem wq_1_209 : (Jvm.Cond.laysFinal "FencedLedger" "FencedLedger" "stores" "[LFencedLedger$Store;") ∈ fw_ws := List.mem_filter.mpr ⟨fw_in1 (List.mem_of_getElem? (l := tables_1_1) (i := 209) rfl), rfl⟩
theorem wq_1_211 : (Jvm.Cond.laysFinal "FencedLedger" "FencedLedger" "channel" "LFencedLedger$Channel;") ∈ fw_ws := List.mem_filter.mpr ⟨fw_in1 (List.mem_of_getElem? (l := tables_1_1) (i := 211) rfl), rfl⟩
theorem wq_1_213 : (Jvm.Cond.laysFinal "FencedLedger" "FencedLedger" "theWriter" "LFencedLedger$Writer;") ∈ fw_ws := List.mem_filter.mpr ⟨fw_in1 (List.mem_of_getElem? (l := tables_1_1) (i := 213) rfl), rfl⟩
theorem wq_1_215 : (Jvm.Cond.laysFinal "FencedLedger" "FencedLedger" "recoverers" "[LFencedLedger$Recoverer;") ∈ fw_ws := List.mem_filter.mpr ⟨fw_in1 (List.mem_of_getElem? (l := tables_1_1) (i := 215) rfl), rfl⟩
theorem wq_1_217 : (Jvm.Cond.lays "FencedLedger" "FencedLedger" "ledgerState" "I") ∈ fw_ws := List.mem_filter.mpr ⟨fw_in1 (List.mem_of_getElem? (l := tables_1_1) (i := 217) rfl), rfl⟩
theorem wq_1_219 : (Jvm.Cond.lays "FencedLedger" "FencedLedger" "ledgerVersion" "I") ∈ fw_ws := List.mem_filter.mpr ⟨fw_in1 (List.mem_of_getElem? (l := tables_1_1) (i := 219) rfl), rfl⟩
theorem wq_1_221 : (Jvm.Cond.lays "FencedLedger" "FencedLedger" "ledgerLast" "I") ∈ fw_ws := List.mem_filter.mpr ⟨fw_in1 (List.mem_of_getElem? (l := tables_1_1) (i := 221) rfl), rfl⟩
theorem wq_1_230 : (Jvm.Cond.instanceMethod ({ cls := "FencedLedger$Writer", name := "knows", desc := "(I)Z" } : Jvm.MethodName)) ∈ fw_ws := List.mem_filter.mpr ⟨fw_in1 (List.mem_of_getElem? (l := tables_1_1) (i := 230) rfl), rfl⟩
theorem wq_1_231 : (Jvm.Cond.code ({ cls := "FencedLedger$Writer", name := "knows", desc := "(I)Z" } : Jvm.MethodName) prog_6_method_3_code (2 : Nat) (Option.some Jvm.ClassFile.FieldType.boolean)) ∈ fw_ws := List.mem_filter.mpr ⟨fw_in1 (List.mem_of_getElem? (l := tables_1_1) (i := 231) rfl), rfl⟩
theorem wq_1_234 : (Jvm.Cond.instanceMethod ({ cls := "FencedLedger$Writer", name := "countAnswers", desc := "(I)I" } : Jvm.MethodName)) ∈ fw_ws := List.mem_filter.mpr ⟨fw_in1 (List.mem_of_getElem? (l := tables_1_1) (i := 234) rfl), rfl⟩
theorem wq_1_235 : (Jvm.Cond.code ({ cls := "FencedLedger$Writer", name := "countAnswers", desc := "(I)I" } : Jvm.MethodName) prog_6_method_5_code (2 : Nat) (Option.some Jvm.ClassFile.FieldType.int)) ∈ fw_ws := List.mem_filter.mpr ⟨fw_in1 (List.mem_of_getElem? (l := tables_1_1) (i := 235) rfl), rfl⟩
theorem wq_1_236 : (Jvm.Cond.methodLink "FencedLedger$Writer" (28 : Nat) ({ cls := "java/lang/Integer", name := "bitCount", desc := "(I)I" } : Jvm.MethodName)) ∈ fw_ws := List.mem_filter.mpr ⟨fw_in1 (List.mem_of_getElem? (l := tables_1_1) (i := 236) rfl), rfl⟩
theorem wq_1_237 : (Jvm.Cond.static ({ cls := "java/lang/Integer", name := "bitCount", desc := "(I)I" } : Jvm.MethodName)) ∈ fw_ws := List.mem_filter.mpr ⟨fw_in1 (List.mem_of_getElem? (l := tables_1_1) (i := 237) rfl), rfl⟩
theorem wq_1_238 : (Jvm.Cond.code ({ cls := "java/lang/Integer", name := "bitCount", desc := "(I)I" } : Jvm.MethodName) prog_12_method_49_code (1 : Nat) (Option.some Jvm.ClassFile.FieldType.int)) ∈ fw_ws := List.mem_filter.mpr ⟨fw_in1 (List.mem_of_getElem? (l := tables_1_1) (i := 238) rfl), rfl⟩
theorem wq_1_239 : (Jvm.Cond.constant "java/lang/Integer" (265 : Nat) (1431655765 : Int32)) ∈ fw_ws := List.mem_filter.mpr ⟨fw_in1 (List.mem_of_getElem? (l := tables_1_1) (i := 239) rfl), rfl⟩
theorem wq_2_0 : (Jvm.Cond.constant "java/lang/Integer" (266 : Nat) (858993459 : Int32)) ∈ fw_ws := List.mem_filter.mpr ⟨fw_in2 (List.mem_of_getElem? (l := tables_1_2) (i := 0) rfl), rfl⟩
theorem wq_2_1 : (Jvm.Cond.constant "java/lang/Integer" (267 : Nat) (252645135 : Int32)) ∈ fw_ws := List.mem_filter.mpr ⟨fw_in2 (List.mem_of_getElem? (l := tables_1_2) (i := 1) rfl), rfl⟩
theorem wq_2_2 : (Jvm.Cond.methodLink "FencedLedger" (85 : Nat) ({ cls := "FencedLedger", name := "sendWritersAdd", desc := "(I)I" } : Jvm.MethodName)) ∈ fw_ws := List.mem_filter.mpr ⟨fw_in2 (List.mem_of_getElem? (l := tables_1_2) (i := 2) rfl), rfl⟩
theorem wq_2_4 : (Jvm.Cond.instanceMethod ({ cls := "FencedLedger", name := "sendWritersAdd", desc := "(I)I" } : Jvm.MethodName)) ∈ fw_ws := List.mem_filter.mpr ⟨fw_in2 (List.mem_of_getElem? (l := tables_1_2) (i := 4) rfl), rfl⟩
theorem wq_2_5 : (Jvm.Cond.code ({ cls := "FencedLedger", name := "sendWritersAdd", desc := "(I)I" } : Jvm.MethodName) prog_1_method_28_code (3 : Nat) (Option.some Jvm.ClassFile.FieldType.int)) ∈ fw_ws := List.mem_filter.mpr ⟨fw_in2 (List.mem_of_getElem? (l := tables_1_2) (i := 5) rfl), rfl⟩
theorem wq_2_6 : (Jvm.Cond.methodLink "FencedLedger" (205 : Nat) ({ cls := "FencedLedger", name := "sendToSet", desc := "(IIIIIII)I" } : Jvm.MethodName)) ∈ fw_ws := List.mem_filter.mpr ⟨fw_in2 (List.mem_of_getElem? (l := tables_1_2) (i := 6) rfl), rfl⟩
theorem wq_2_8 : (Jvm.Cond.instanceMethod ({ cls := "FencedLedger", name := "sendToSet", desc := "(IIIIIII)I" } : Jvm.MethodName)) ∈ fw_ws := List.mem_filter.mpr ⟨fw_in2 (List.mem_of_getElem? (l := tables_1_2) (i := 8) rfl), rfl⟩
theorem wq_2_9 : (Jvm.Cond.code ({ cls := "FencedLedger", name := "sendToSet", desc := "(IIIIIII)I" } : Jvm.MethodName) prog_1_method_29_code (11 : Nat) (Option.some Jvm.ClassFile.FieldType.int)) ∈ fw_ws := List.mem_filter.mpr ⟨fw_in2 (List.mem_of_getElem? (l := tables_1_2) (i := 9) rfl), rfl⟩
theorem wq_2_10 : (Jvm.Cond.methodLink "FencedLedger" (198 : Nat) ({ cls := "FencedLedger", name := "setMember", desc := "(II)I" } : Jvm.MethodName)) ∈ fw_ws := List.mem_filter.mpr ⟨fw_in2 (List.mem_of_getElem? (l := tables_1_2) (i := 10) rfl), rfl⟩
theorem wq_2_12 : (Jvm.Cond.instanceMethod ({ cls := "FencedLedger", name := "setMember", desc := "(II)I" } : Jvm.MethodName)) ∈ fw_ws := List.mem_filter.mpr ⟨fw_in2 (List.mem_of_getElem? (l := tables_1_2) (i := 12) rfl), rfl⟩
theorem wq_2_13 : (Jvm.Cond.code ({ cls := "FencedLedger", name := "setMember", desc := "(II)I" } : Jvm.MethodName) prog_1_method_25_code (3 : Nat) (Option.some Jvm.ClassFile.FieldType.int)) ∈ fw_ws := List.mem_filter.mpr ⟨fw_in2 (List.mem_of_getElem? (l := tables_1_2) (i := 13) rfl), rfl⟩
theorem wq_2_16 : (Jvm.Cond.instanceMethod ({ cls := "FencedLedger$Channel", name := "send", desc := "(IIIIIII)V" } : Jvm.MethodName)) ∈ fw_ws := List.mem_filter.mpr ⟨fw_in2 (List.mem_of_getElem? (l := tables_1_2) (i := 16) rfl), rfl⟩
theorem wq_2_17 : (Jvm.Cond.code ({ cls := "FencedLedger$Channel", name := "send", desc := "(IIIIIII)V" } : Jvm.MethodName) prog_2_method_3_code (9 : Nat) (Option.none : Option Jvm.ClassFile.FieldType)) ∈ fw_ws := List.mem_filter.mpr ⟨fw_in2 (List.mem_of_getElem? (l := tables_1_2) (i := 17) rfl), rfl⟩
theorem wq_2_22 : (Jvm.Cond.methodLink "FencedLedger" (98 : Nat) ({ cls := "FencedLedger", name := "shutLedger", desc := "(I)V" } : Jvm.MethodName)) ∈ fw_ws := List.mem_filter.mpr ⟨fw_in2 (List.mem_of_getElem? (l := tables_1_2) (i := 22) rfl), rfl⟩
theorem wq_2_24 : (Jvm.Cond.instanceMethod ({ cls := "FencedLedger", name := "shutLedger", desc := "(I)V" } : Jvm.MethodName)) ∈ fw_ws := List.mem_filter.mpr ⟨fw_in2 (List.mem_of_getElem? (l := tables_1_2) (i := 24) rfl), rfl⟩
theorem wq_2_25 : (Jvm.Cond.code ({ cls := "FencedLedger", name := "shutLedger", desc := "(I)V" } : Jvm.MethodName) prog_1_method_27_code (2 : Nat) (Option.none : Option Jvm.ClassFile.FieldType)) ∈ fw_ws := List.mem_filter.mpr ⟨fw_in2 (List.mem_of_getElem? (l := tables_1_2) (i := 25) rfl), rfl⟩
theorem wq_2_42 : (Jvm.Cond.methodLink "FencedLedger" (104 : Nat) ({ cls := "FencedLedger", name := "isRecoverer", desc := "(I)Z" } : Jvm.MethodName)) ∈ fw_ws := List.mem_filter.mpr ⟨fw_in2 (List.mem_of_getElem? (l := tables_1_2) (i := 42) rfl), rfl⟩
theorem wq_2_43 : (Jvm.Cond.static ({ cls := "FencedLedger", name := "isRecoverer", desc := "(I)Z" } : Jvm.MethodName)) ∈ fw_ws := List.mem_filter.mpr ⟨fw_in2 (List.mem_of_getElem? (l := tables_1_2) (i := 43) rfl), rfl⟩
theorem wq_2_44 : (Jvm.Cond.code ({ cls := "FencedLedger", name := "isRecoverer", desc := "(I)Z" } : Jvm.MethodName) prog_1_method_23_code (1 : Nat) (Option.some Jvm.ClassFile.FieldType.boolean)) ∈ fw_ws := List.mem_filter.mpr ⟨fw_in2 (List.mem_of_getElem? (l := tables_1_2) (i := 44) rfl), rfl⟩
theorem wq_2_47 : (Jvm.Cond.instanceMethod ({ cls := "FencedLedger$Recoverer", name := "beginFencing", desc := "(I)V" } : Jvm.MethodName)) ∈ fw_ws := List.mem_filter.mpr ⟨fw_in2 (List.mem_of_getElem? (l := tables_1_2) (i := 47) rfl), rfl⟩
theorem wq_2_48 : (Jvm.Cond.code ({ cls := "FencedLedger$Recoverer", name := "beginFencing", desc := "(I)V" } : Jvm.MethodName) prog_4_method_4_code (2 : Nat) (Option.none : Option Jvm.ClassFile.FieldType)) ∈ fw_ws := List.mem_filter.mpr ⟨fw_in2 (List.mem_of_getElem? (l := tables_1_2) (i := 48) rfl), rfl⟩
theorem wq_2_49 : (Jvm.Cond.methodLink "FencedLedger" (111 : Nat) ({ cls := "FencedLedger", name := "sendStep", desc := "(LFencedLedger$Recoverer;)I" } : Jvm.MethodName)) ∈ fw_ws := List.mem_filter.mpr ⟨fw_in2 (List.mem_of_getElem? (l := tables_1_2) (i := 49) rfl), rfl⟩
theorem wq_2_51 : (Jvm.Cond.instanceMethod ({ cls := "FencedLedger", name := "sendStep", desc := "(LFencedLedger$Recoverer;)I" } : Jvm.MethodName)) ∈ fw_ws := List.mem_filter.mpr ⟨fw_in2 (List.mem_of_getElem? (l := tables_1_2) (i := 51) rfl), rfl⟩
theorem wq_2_52 : (Jvm.Cond.code ({ cls := "FencedLedger", name := "sendStep", desc := "(LFencedLedger$Recoverer;)I" } : Jvm.MethodName) prog_1_method_31_code (2 : Nat) (Option.some Jvm.ClassFile.FieldType.int)) ∈ fw_ws := List.mem_filter.mpr ⟨fw_in2 (List.mem_of_getElem? (l := tables_1_2) (i := 52) rfl), rfl⟩
theorem wq_2_53 : (Jvm.Cond.methodLink "FencedLedger" (219 : Nat) ({ cls := "FencedLedger", name := "sendFences", desc := "(LFencedLedger$Recoverer;)I" } : Jvm.MethodName)) ∈ fw_ws := List.mem_filter.mpr ⟨fw_in2 (List.mem_of_getElem? (l := tables_1_2) (i := 53) rfl), rfl⟩
theorem wq_2_55 : (Jvm.Cond.instanceMethod ({ cls := "FencedLedger", name := "sendFences", desc := "(LFencedLedger$Recoverer;)I" } : Jvm.MethodName)) ∈ fw_ws := List.mem_filter.mpr ⟨fw_in2 (List.mem_of_getElem? (l := tables_1_2) (i := 55) rfl), rfl⟩
theorem wq_2_56 : (Jvm.Cond.code ({ cls := "FencedLedger", name := "sendFences", desc := "(LFencedLedger$Recoverer;)I" } : Jvm.MethodName) prog_1_method_30_code (4 : Nat) (Option.some Jvm.ClassFile.FieldType.int)) ∈ fw_ws := List.mem_filter.mpr ⟨fw_in2 (List.mem_of_getElem? (l := tables_1_2) (i := 56) rfl), rfl⟩
theorem wq_2_63 : (Jvm.Cond.instanceMethod ({ cls := "FencedLedger$Recoverer", name := "isBusy", desc := "()Z" } : Jvm.MethodName)) ∈ fw_ws := List.mem_filter.mpr ⟨fw_in2 (List.mem_of_getElem? (l := tables_1_2) (i := 63) rfl), rfl⟩
theorem wq_2_64 : (Jvm.Cond.code ({ cls := "FencedLedger$Recoverer", name := "isBusy", desc := "()Z" } : Jvm.MethodName) prog_4_method_2_code (1 : Nat) (Option.some Jvm.ClassFile.FieldType.boolean)) ∈ fw_ws := List.mem_filter.mpr ⟨fw_in2 (List.mem_of_getElem? (l := tables_1_2) (i := 64) rfl), rfl⟩
theorem wq_2_75 : (Jvm.Cond.instanceMethod ({ cls := "FencedLedger$Recoverer", name := "detail", desc := "(I)I" } : Jvm.MethodName)) ∈ fw_ws := List.mem_filter.mpr ⟨fw_in2 (List.mem_of_getElem? (l := tables_1_2) (i := 75) rfl), rfl⟩
theorem wq_2_76 : (Jvm.Cond.code ({ cls := "FencedLedger$Recoverer", name := "detail", desc := "(I)I" } : Jvm.MethodName) prog_4_method_9_code (2 : Nat) (Option.some Jvm.ClassFile.FieldType.int)) ∈ fw_ws := List.mem_filter.mpr ⟨fw_in2 (List.mem_of_getElem? (l := tables_1_2) (i := 76) rfl), rfl⟩
theorem wq_2_77 : (Jvm.Cond.methodLink "FencedLedger$Recoverer" (39 : Nat) ({ cls := "FencedLedger$Recoverer", name := "countAnswered", desc := "()I" } : Jvm.MethodName)) ∈ fw_ws := List.mem_filter.mpr ⟨fw_in2 (List.mem_of_getElem? (l := tables_1_2) (i := 77) rfl), rfl⟩
theorem wq_2_79 : (Jvm.Cond.instanceMethod ({ cls := "FencedLedger$Recoverer", name := "countAnswered", desc := "()I" } : Jvm.MethodName)) ∈ fw_ws := List.mem_filter.mpr ⟨fw_in2 (List.mem_of_getElem? (l := tables_1_2) (i := 79) rfl), rfl⟩
theorem wq_2_80 : (Jvm.Cond.code ({ cls := "FencedLedger$Recoverer", name := "countAnswered", desc := "()I" } : Jvm.MethodName) prog_4_method_8_code (1 : Nat) (Option.some Jvm.ClassFile.FieldType.int)) ∈ fw_ws := List.mem_filter.mpr ⟨fw_in2 (List.mem_of_getElem? (l := tables_1_2) (i := 80) rfl), rfl⟩
theorem wq_2_81 : (Jvm.Cond.methodLink "FencedLedger$Recoverer" (33 : Nat) ({ cls := "java/lang/Integer", name := "bitCount", desc := "(I)I" } : Jvm.MethodName)) ∈ fw_ws := List.mem_filter.mpr ⟨fw_in2 (List.mem_of_getElem? (l := tables_1_2) (i := 81) rfl), rfl⟩
theorem wq_2_88 : (Jvm.Cond.instanceMethod ({ cls := "FencedLedger$Channel", name := "holds", desc := "(I)Z" } : Jvm.MethodName)) ∈ fw_ws := List.mem_filter.mpr ⟨fw_in2 (List.mem_of_getElem? (l := tables_1_2) (i := 88) rfl), rfl⟩
theorem wq_2_89 : (Jvm.Cond.code ({ cls := "FencedLedger$Channel", name := "holds", desc := "(I)Z" } : Jvm.MethodName) prog_2_method_2_code (2 : Nat) (Option.some Jvm.ClassFile.FieldType.boolean)) ∈ fw_ws := List.mem_filter.mpr ⟨fw_in2 (List.mem_of_getElem? (l := tables_1_2) (i := 89) rfl), rfl⟩
theorem wq_2_92 : (Jvm.Cond.instanceMethod ({ cls := "FencedLedger$Channel", name := "takeOut", desc := "(I)LFencedLedger$Message;" } : Jvm.MethodName)) ∈ fw_ws := List.mem_filter.mpr ⟨fw_in2 (List.mem_of_getElem? (l := tables_1_2) (i := 92) rfl), rfl⟩
theorem wq_2_93 : (Jvm.Cond.code ({ cls := "FencedLedger$Channel", name := "takeOut", desc := "(I)LFencedLedger$Message;" } : Jvm.MethodName) prog_2_method_4_code (4 : Nat) (Option.some (Jvm.ClassFile.FieldType.object "FencedLedger$Message"))) ∈ fw_ws := List.mem_filter.mpr ⟨fw_in2 (List.mem_of_getElem? (l := tables_1_2) (i := 93) rfl), rfl⟩
theorem wq_2_96 : (Jvm.Cond.instanceMethod ({ cls := "FencedLedger$Message", name := "isToStore", desc := "()Z" } : Jvm.MethodName)) ∈ fw_ws := List.mem_filter.mpr ⟨fw_in2 (List.mem_of_getElem? (l := tables_1_2) (i := 96) rfl), rfl⟩
theorem wq_2_97 : (Jvm.Cond.code ({ cls := "FencedLedger$Message", name := "isToStore", desc := "()Z" } : Jvm.MethodName) prog_3_method_2_code (1 : Nat) (Option.some Jvm.ClassFile.FieldType.boolean)) ∈ fw_ws := List.mem_filter.mpr ⟨fw_in2 (List.mem_of_getElem? (l := tables_1_2) (i := 97) rfl), rfl⟩
theorem wq_2_98 : (Jvm.Cond.methodLink "FencedLedger" (133 : Nat) ({ cls := "FencedLedger", name := "reachStore", desc := "(LFencedLedger$Message;)V" } : Jvm.MethodName)) ∈ fw_ws := List.mem_filter.mpr ⟨fw_in2 (List.mem_of_getElem? (l := tables_1_2) (i := 98) rfl), rfl⟩
theorem wq_2_100 : (Jvm.Cond.instanceMethod ({ cls := "FencedLedger", name := "reachStore", desc := "(LFencedLedger$Message;)V" } : Jvm.MethodName)) ∈ fw_ws := List.mem_filter.mpr ⟨fw_in2 (List.mem_of_getElem? (l := tables_1_2) (i := 100) rfl), rfl⟩
theorem wq_2_101 : (Jvm.Cond.code ({ cls := "FencedLedger", name := "reachStore", desc := "(LFencedLedger$Message;)V" } : Jvm.MethodName) prog_1_method_32_code (3 : Nat) (Option.none : Option Jvm.ClassFile.FieldType)) ∈ fw_ws := List.mem_filter.mpr ⟨fw_in2 (List.mem_of_getElem? (l := tables_1_2) (i := 101) rfl), rfl⟩
theorem wq_2_102 : (Jvm.Cond.methodLink "FencedLedger" (231 : Nat) ({ cls := "FencedLedger", name := "reachStoreWithAdd", desc := "(LFencedLedger$Store;LFencedLedger$Message;)V" } : Jvm.MethodName)) ∈ fw_ws := List.mem_filter.mpr ⟨fw_in2 (List.mem_of_getElem? (l := tables_1_2) (i := 102) rfl), rfl⟩
theorem wq_2_104 : (Jvm.Cond.instanceMethod ({ cls := "FencedLedger", name := "reachStoreWithAdd", desc := "(LFencedLedger$Store;LFencedLedger$Message;)V" } : Jvm.MethodName)) ∈ fw_ws := List.mem_filter.mpr ⟨fw_in2 (List.mem_of_getElem? (l := tables_1_2) (i := 104) rfl), rfl⟩
theorem wq_2_105 : (Jvm.Cond.code ({ cls := "FencedLedger", name := "reachStoreWithAdd", desc := "(LFencedLedger$Store;LFencedLedger$Message;)V" } : Jvm.MethodName) prog_1_method_33_code (3 : Nat) (Option.none : Option Jvm.ClassFile.FieldType)) ∈ fw_ws := List.mem_filter.mpr ⟨fw_in2 (List.mem_of_getElem? (l := tables_1_2) (i := 105) rfl), rfl⟩
theorem wq_2_106 : (Jvm.Cond.methodLink "FencedLedger" (241 : Nat) ({ cls := "FencedLedger", name := "sendAnswer", desc := "(LFencedLedger$Message;II)V" } : Jvm.MethodName)) ∈ fw_ws := List.mem_filter.mpr ⟨fw_in2 (List.mem_of_getElem? (l := tables_1_2) (i := 106) rfl), rfl⟩
theorem wq_2_108 : (Jvm.Cond.instanceMethod ({ cls := "FencedLedger", name := "sendAnswer", desc := "(LFencedLedger$Message;II)V" } : Jvm.MethodName)) ∈ fw_ws := List.mem_filter.mpr ⟨fw_in2 (List.mem_of_getElem? (l := tables_1_2) (i := 108) rfl), rfl⟩
theorem wq_2_109 : (Jvm.Cond.code ({ cls := "FencedLedger", name := "sendAnswer", desc := "(LFencedLedger$Message;II)V" } : Jvm.MethodName) prog_1_method_34_code (4 : Nat) (Option.none : Option Jvm.ClassFile.FieldType)) ∈ fw_ws := List.mem_filter.mpr ⟨fw_in2 (List.mem_of_getElem? (l := tables_1_2) (i := 109) rfl), rfl⟩
theorem wq_2_112 : (Jvm.Cond.instanceMethod ({ cls := "FencedLedger$Store", name := "keep", desc := "(III)V" } : Jvm.MethodName)) ∈ fw_ws := List.mem_filter.mpr ⟨fw_in2 (List.mem_of_getElem? (l := tables_1_2) (i := 112) rfl), rfl⟩
theorem wq_2_113 : (Jvm.Cond.code ({ cls := "FencedLedger$Store", name := "keep", desc := "(III)V" } : Jvm.MethodName) prog_5_method_2_code (4 : Nat) (Option.none : Option Jvm.ClassFile.FieldType)) ∈ fw_ws := List.mem_filter.mpr ⟨fw_in2 (List.mem_of_getElem? (l := tables_1_2) (i := 113) rfl), rfl⟩
theorem wq_2_114 : (Jvm.Cond.methodLink "FencedLedger$Store" (33 : Nat) ({ cls := "java/lang/Math", name := "max", desc := "(II)I" } : Jvm.MethodName)) ∈ fw_ws := List.mem_filter.mpr ⟨fw_in2 (List.mem_of_getElem? (l := tables_1_2) (i := 114) rfl), rfl⟩
theorem wq_2_117 : (Jvm.Cond.instanceMethod ({ cls := "FencedLedger$Writer", name := "hear", desc := "(LFencedLedger$Message;I)V" } : Jvm.MethodName)) ∈ fw_ws := List.mem_filter.mpr ⟨fw_in2 (List.mem_of_getElem? (l := tables_1_2) (i := 117) rfl), rfl⟩
theorem wq_2_118 : (Jvm.Cond.code ({ cls := "FencedLedger$Writer", name := "hear", desc := "(LFencedLedger$Message;I)V" } : Jvm.MethodName) prog_6_method_6_code (3 : Nat) (Option.none : Option Jvm.ClassFile.FieldType)) ∈ fw_ws := List.mem_filter.mpr ⟨fw_in2 (List.mem_of_getElem? (l := tables_1_2) (i := 118) rfl), rfl⟩
theorem wq_2_119 : (Jvm.Cond.methodLink "FencedLedger$Writer" (45 : Nat) ({ cls := "FencedLedger$Writer", name := "advanceLac", desc := "(I)V" } : Jvm.MethodName)) ∈ fw_ws := List.mem_filter.mpr ⟨fw_in2 (List.mem_of_getElem? (l := tables_1_2) (i := 119) rfl), rfl⟩
theorem wq_2_121 : (Jvm.Cond.instanceMethod ({ cls := "FencedLedger$Writer", name := "advanceLac", desc := "(I)V" } : Jvm.MethodName)) ∈ fw_ws := List.mem_filter.mpr ⟨fw_in2 (List.mem_of_getElem? (l := tables_1_2) (i := 121) rfl), rfl⟩
theorem wq_2_122 : (Jvm.Cond.code ({ cls := "FencedLedger$Writer", name := "advanceLac", desc := "(I)V" } : Jvm.MethodName) prog_6_method_7_code (3 : Nat) (Option.none : Option Jvm.ClassFile.FieldType)) ∈ fw_ws := List.mem_filter.mpr ⟨fw_in2 (List.mem_of_getElem? (l := tables_1_2) (i := 122) rfl), rfl⟩
theorem wq_2_123 : (Jvm.Cond.methodLink "FencedLedger$Writer" (49 : Nat) ({ cls := "FencedLedger$Writer", name := "countAnswers", desc := "(I)I" } : Jvm.MethodName)) ∈ fw_ws := List.mem_filter.mpr ⟨fw_in2 (List.mem_of_getElem? (l := tables_1_2) (i := 123) rfl), rfl⟩
theorem wq_2_124 : (Jvm.Cond.methodLink "FencedLedger" (144 : Nat) ({ cls := "FencedLedger", name := "reachRecoverer", desc := "(LFencedLedger$Message;)V" } : Jvm.MethodName)) ∈ fw_ws := List.mem_filter.mpr ⟨fw_in2 (List.mem_of_getElem? (l := tables_1_2) (i := 124) rfl), rfl⟩
theorem wq_2_126 : (Jvm.Cond.instanceMethod ({ cls := "FencedLedger", name := "reachRecoverer", desc := "(LFencedLedger$Message;)V" } : Jvm.MethodName)) ∈ fw_ws := List.mem_filter.mpr ⟨fw_in2 (List.mem_of_getElem? (l := tables_1_2) (i := 126) rfl), rfl⟩
theorem wq_2_127 : (Jvm.Cond.code ({ cls := "FencedLedger", name := "reachRecoverer", desc := "(LFencedLedger$Message;)V" } : Jvm.MethodName) prog_1_method_35_code (3 : Nat) (Option.none : Option Jvm.ClassFile.FieldType)) ∈ fw_ws := List.mem_filter.mpr ⟨fw_in2 (List.mem_of_getElem? (l := tables_1_2) (i := 127) rfl), rfl⟩
theorem wq_2_128 : (Jvm.Cond.methodLink "FencedLedger" (253 : Nat) ({ cls := "FencedLedger", name := "hearFenced", desc := "(LFencedLedger$Recoverer;LFencedLedger$Message;)V" } : Jvm.MethodName)) ∈ fw_ws := List.mem_filter.mpr ⟨fw_in2 (List.mem_of_getElem? (l := tables_1_2) (i := 128) rfl), rfl⟩
theorem wq_2_130 : (Jvm.Cond.instanceMethod ({ cls := "FencedLedger", name := "hearFenced", desc := "(LFencedLedger$Recoverer;LFencedLedger$Message;)V" } : Jvm.MethodName)) ∈ fw_ws := List.mem_filter.mpr ⟨fw_in2 (List.mem_of_getElem? (l := tables_1_2) (i := 130) rfl), rfl⟩
theorem wq_2_131 : (Jvm.Cond.code ({ cls := "FencedLedger", name := "hearFenced", desc := "(LFencedLedger$Recoverer;LFencedLedger$Message;)V" } : Jvm.MethodName) prog_1_method_36_code (3 : Nat) (Option.none : Option Jvm.ClassFile.FieldType)) ∈ fw_ws := List.mem_filter.mpr ⟨fw_in2 (List.mem_of_getElem? (l := tables_1_2) (i := 131) rfl), rfl⟩
theorem wq_2_134 : (Jvm.Cond.instanceMethod ({ cls := "FencedLedger$Recoverer", name := "noteAnswer", desc := "(I)V" } : Jvm.MethodName)) ∈ fw_ws := List.mem_filter.mpr ⟨fw_in2 (List.mem_of_getElem? (l := tables_1_2) (i := 134) rfl), rfl⟩
theorem wq_2_135 : (Jvm.Cond.code ({ cls := "FencedLedger$Recoverer", name := "noteAnswer", desc := "(I)V" } : Jvm.MethodName) prog_4_method_7_code (2 : Nat) (Option.none : Option Jvm.ClassFile.FieldType)) ∈ fw_ws := List.mem_filter.mpr ⟨fw_in2 (List.mem_of_getElem? (l := tables_1_2) (i := 135) rfl), rfl⟩
theorem wq_2_136 : (Jvm.Cond.methodLink "FencedLedger" (276 : Nat) ({ cls := "FencedLedger", name := "isWriterFencedOut", desc := "(I)Z" } : Jvm.MethodName)) ∈ fw_ws := List.mem_filter.mpr ⟨fw_in2 (List.mem_of_getElem? (l := tables_1_2) (i := 136) rfl), rfl⟩
theorem wq_2_138 : (Jvm.Cond.instanceMethod ({ cls := "FencedLedger", name := "isWriterFencedOut", desc := "(I)Z" } : Jvm.MethodName)) ∈ fw_ws := List.mem_filter.mpr ⟨fw_in2 (List.mem_of_getElem? (l := tables_1_2) (i := 138) rfl), rfl⟩
theorem wq_2_139 : (Jvm.Cond.code ({ cls := "FencedLedger", name := "isWriterFencedOut", desc := "(I)Z" } : Jvm.MethodName) prog_1_method_39_code (3 : Nat) (Option.some Jvm.ClassFile.FieldType.boolean)) ∈ fw_ws := List.mem_filter.mpr ⟨fw_in2 (List.mem_of_getElem? (l := tables_1_2) (i := 139) rfl), rfl⟩
theorem wq_2_140 : (Jvm.Cond.methodLink "FencedLedger" (290 : Nat) ({ cls := "FencedLedger", name := "countSilent", desc := "(II)I" } : Jvm.MethodName)) ∈ fw_ws := List.mem_filter.mpr ⟨fw_in2 (List.mem_of_getElem? (l := tables_1_2) (i := 140) rfl), rfl⟩
theorem wq_2_142 : (Jvm.Cond.instanceMethod ({ cls := "FencedLedger", name := "countSilent", desc := "(II)I" } : Jvm.MethodName)) ∈ fw_ws := List.mem_filter.mpr ⟨fw_in2 (List.mem_of_getElem? (l := tables_1_2) (i := 142) rfl), rfl⟩
theorem wq_2_143 : (Jvm.Cond.code ({ cls := "FencedLedger", name := "countSilent", desc := "(II)I" } : Jvm.MethodName) prog_1_method_40_code (5 : Nat) (Option.some Jvm.ClassFile.FieldType.int)) ∈ fw_ws := List.mem_filter.mpr ⟨fw_in2 (List.mem_of_getElem? (l := tables_1_2) (i := 143) rfl), rfl⟩
theorem wq_2_144 : (Jvm.Cond.methodLink "FencedLedger" (279 : Nat) ({ cls := "FencedLedger", name := "readOn", desc := "(LFencedLedger$Recoverer;I)V" } : Jvm.MethodName)) ∈ fw_ws := List.mem_filter.mpr ⟨fw_in2 (List.mem_of_getElem? (l := tables_1_2) (i := 144) rfl), rfl⟩
theorem wq_2_146 : (Jvm.Cond.instanceMethod ({ cls := "FencedLedger", name := "readOn", desc := "(LFencedLedger$Recoverer;I)V" } : Jvm.MethodName)) ∈ fw_ws := List.mem_filter.mpr ⟨fw_in2 (List.mem_of_getElem? (l := tables_1_2) (i := 146) rfl), rfl⟩
theorem wq_2_147 : (Jvm.Cond.code ({ cls := "FencedLedger", name := "readOn", desc := "(LFencedLedger$Recoverer;I)V" } : Jvm.MethodName) prog_1_method_41_code (3 : Nat) (Option.none : Option Jvm.ClassFile.FieldType)) ∈ fw_ws := List.mem_filter.mpr ⟨fw_in2 (List.mem_of_getElem? (l := tables_1_2) (i := 147) rfl), rfl⟩
theorem wq_2_148 : (Jvm.Cond.methodLink "FencedLedger" (287 : Nat) ({ cls := "FencedLedger", name := "finish", desc := "(LFencedLedger$Recoverer;I)V" } : Jvm.MethodName)) ∈ fw_ws := List.mem_filter.mpr ⟨fw_in2 (List.mem_of_getElem? (l := tables_1_2) (i := 148) rfl), rfl⟩
theorem wq_2_150 : (Jvm.Cond.instanceMethod ({ cls := "FencedLedger", name := "finish", desc := "(LFencedLedger$Recoverer;I)V" } : Jvm.MethodName)) ∈ fw_ws := List.mem_filter.mpr ⟨fw_in2 (List.mem_of_getElem? (l := tables_1_2) (i := 150) rfl), rfl⟩
theorem wq_2_151 : (Jvm.Cond.code ({ cls := "FencedLedger", name := "finish", desc := "(LFencedLedger$Recoverer;I)V" } : Jvm.MethodName) prog_1_method_42_code (3 : Nat) (Option.none : Option Jvm.ClassFile.FieldType)) ∈ fw_ws := List.mem_filter.mpr ⟨fw_in2 (List.mem_of_getElem? (l := tables_1_2) (i := 151) rfl), rfl⟩
theorem wq_2_154 : (Jvm.Cond.instanceMethod ({ cls := "FencedLedger$Recoverer", name := "beginReading", desc := "(I)V" } : Jvm.MethodName)) ∈ fw_ws := List.mem_filter.mpr ⟨fw_in2 (List.mem_of_getElem? (l := tables_1_2) (i := 154) rfl), rfl⟩
theorem wq_2_155 : (Jvm.Cond.code ({ cls := "FencedLedger$Recoverer", name := "beginReading", desc := "(I)V" } : Jvm.MethodName) prog_4_method_5_code (2 : Nat) (Option.none : Option Jvm.ClassFile.FieldType)) ∈ fw_ws := List.mem_filter.mpr ⟨fw_in2 (List.mem_of_getElem? (l := tables_1_2) (i := 155) rfl), rfl⟩
theorem wq_2_158 : (Jvm.Cond.instanceMethod ({ cls := "FencedLedger$Recoverer", name := "awaits", desc := "(II)Z" } : Jvm.MethodName)) ∈ fw_ws := List.mem_filter.mpr ⟨fw_in2 (List.mem_of_getElem? (l := tables_1_2) (i := 158) rfl), rfl⟩
theorem wq_2_159 : (Jvm.Cond.code ({ cls := "FencedLedger$Recoverer", name := "awaits", desc := "(II)Z" } : Jvm.MethodName) prog_4_method_3_code (3 : Nat) (Option.some Jvm.ClassFile.FieldType.boolean)) ∈ fw_ws := List.mem_filter.mpr ⟨fw_in2 (List.mem_of_getElem? (l := tables_1_2) (i := 159) rfl), rfl⟩
theorem wq_2_162 : (Jvm.Cond.instanceMethod ({ cls := "FencedLedger$Recoverer", name := "beginWritingBack", desc := "(I)V" } : Jvm.MethodName)) ∈ fw_ws := List.mem_filter.mpr ⟨fw_in2 (List.mem_of_getElem? (l := tables_1_2) (i := 162) rfl), rfl⟩
theorem wq_2_163 : (Jvm.Cond.code ({ cls := "FencedLedger$Recoverer", name := "beginWritingBack", desc := "(I)V" } : Jvm.MethodName) prog_4_method_6_code (2 : Nat) (Option.none : Option Jvm.ClassFile.FieldType)) ∈ fw_ws := List.mem_filter.mpr ⟨fw_in2 (List.mem_of_getElem? (l := tables_1_2) (i := 163) rfl), rfl⟩
theorem wq_2_164 : (Jvm.Cond.methodLink "FencedLedger" (264 : Nat) ({ cls := "FencedLedger", name := "hearMissing", desc := "(LFencedLedger$Recoverer;LFencedLedger$Message;)V" } : Jvm.MethodName)) ∈ fw_ws := List.mem_filter.mpr ⟨fw_in2 (List.mem_of_getElem? (l := tables_1_2) (i := 164) rfl), rfl⟩
theorem wq_2_166 : (Jvm.Cond.instanceMethod ({ cls := "FencedLedger", name := "hearMissing", desc := "(LFencedLedger$Recoverer;LFencedLedger$Message;)V" } : Jvm.MethodName)) ∈ fw_ws := List.mem_filter.mpr ⟨fw_in2 (List.mem_of_getElem? (l := tables_1_2) (i := 166) rfl), rfl⟩
theorem wq_2_167 : (Jvm.Cond.code ({ cls := "FencedLedger", name := "hearMissing", desc := "(LFencedLedger$Recoverer;LFencedLedger$Message;)V" } : Jvm.MethodName) prog_1_method_37_code (3 : Nat) (Option.none : Option Jvm.ClassFile.FieldType)) ∈ fw_ws := List.mem_filter.mpr ⟨fw_in2 (List.mem_of_getElem? (l := tables_1_2) (i := 167) rfl), rfl⟩
theorem wq_2_169 : (Jvm.Cond.methodLink "FencedLedger" (267 : Nat) ({ cls := "FencedLedger", name := "hearAdded", desc := "(LFencedLedger$Recoverer;LFencedLedger$Message;)V" } : Jvm.MethodName)) ∈ fw_ws := List.mem_filter.mpr ⟨fw_in2 (List.mem_of_getElem? (l := tables_1_2) (i := 169) rfl), rfl⟩
theorem wq_2_171 : (Jvm.Cond.instanceMethod ({ cls := "FencedLedger", name := "hearAdded", desc := "(LFencedLedger$Recoverer;LFencedLedger$Message;)V" } : Jvm.MethodName)) ∈ fw_ws := List.mem_filter.mpr ⟨fw_in2 (List.mem_of_getElem? (l := tables_1_2) (i := 171) rfl), rfl⟩
theorem wq_2_172 : (Jvm.Cond.code ({ cls := "FencedLedger", name := "hearAdded", desc := "(LFencedLedger$Recoverer;LFencedLedger$Message;)V" } : Jvm.MethodName) prog_1_method_38_code (3 : Nat) (Option.none : Option Jvm.ClassFile.FieldType)) ∈ fw_ws := List.mem_filter.mpr ⟨fw_in2 (List.mem_of_getElem? (l := tables_1_2) (i := 172) rfl), rfl⟩
theorem wq_2_187 : (Jvm.Cond.instanceMethod ({ cls := "FencedLedger$Message", name := "detail", desc := "(I)I" } : Jvm.MethodName)) ∈ fw_ws := List.mem_filter.mpr ⟨fw_in2 (List.mem_of_getElem? (l := tables_1_2) (i := 187) rfl), rfl⟩
theorem wq_2_188 : (Jvm.Cond.code ({ cls := "FencedLedger$Message", name := "detail", desc := "(I)I" } : Jvm.MethodName) prog_3_method_3_code (2 : Nat) (Option.some Jvm.ClassFile.FieldType.int)) ∈ fw_ws := List.mem_filter.mpr ⟨fw_in2 (List.mem_of_getElem? (l := tables_1_2) (i := 188) rfl), rfl⟩
theorem wq_2_193 : (Jvm.Cond.methodLink "FencedLedger" (158 : Nat) ({ cls := "FencedLedger", name := "isStore", desc := "(I)Z" } : Jvm.MethodName)) ∈ fw_ws := List.mem_filter.mpr ⟨fw_in2 (List.mem_of_getElem? (l := tables_1_2) (i := 193) rfl), rfl⟩
theorem wq_2_195 : (Jvm.Cond.instanceMethod ({ cls := "FencedLedger", name := "isStore", desc := "(I)Z" } : Jvm.MethodName)) ∈ fw_ws := List.mem_filter.mpr ⟨fw_in2 (List.mem_of_getElem? (l := tables_1_2) (i := 195) rfl), rfl⟩
theorem wq_2_196 : (Jvm.Cond.code ({ cls := "FencedLedger", name := "isStore", desc := "(I)Z" } : Jvm.MethodName) prog_1_method_24_code (2 : Nat) (Option.some Jvm.ClassFile.FieldType.boolean)) ∈ fw_ws := List.mem_filter.mpr ⟨fw_in2 (List.mem_of_getElem? (l := tables_1_2) (i := 196) rfl), rfl⟩
theorem wq_2_203 : (Jvm.Cond.instanceMethod ({ cls := "FencedLedger$Store", name := "detail", desc := "(I)I" } : Jvm.MethodName)) ∈ fw_ws := List.mem_filter.mpr ⟨fw_in2 (List.mem_of_getElem? (l := tables_1_2) (i := 203) rfl), rfl⟩
theorem wq_2_204 : (Jvm.Cond.code ({ cls := "FencedLedger$Store", name := "detail", desc := "(I)I" } : Jvm.MethodName) prog_5_method_3_code (2 : Nat) (Option.some Jvm.ClassFile.FieldType.int)) ∈ fw_ws := List.mem_filter.mpr ⟨fw_in2 (List.mem_of_getElem? (l := tables_1_2) (i := 204) rfl), rfl⟩
theorem wq_2_209 : (Jvm.Cond.methodLink "FencedLedger" (166 : Nat) ({ cls := "FencedLedger", name := "isEntry", desc := "(I)Z" } : Jvm.MethodName)) ∈ fw_ws := List.mem_filter.mpr ⟨fw_in2 (List.mem_of_getElem? (l := tables_1_2) (i := 209) rfl), rfl⟩
theorem wq_2_210 : (Jvm.Cond.static ({ cls := "FencedLedger", name := "isEntry", desc := "(I)Z" } : Jvm.MethodName)) ∈ fw_ws := List.mem_filter.mpr ⟨fw_in2 (List.mem_of_getElem? (l := tables_1_2) (i := 210) rfl), rfl⟩
theorem wq_2_211 : (Jvm.Cond.code ({ cls := "FencedLedger", name := "isEntry", desc := "(I)Z" } : Jvm.MethodName) prog_1_method_22_code (1 : Nat) (Option.some Jvm.ClassFile.FieldType.boolean)) ∈ fw_ws := List.mem_filter.mpr ⟨fw_in2 (List.mem_of_getElem? (l := tables_1_2) (i := 211) rfl), rfl⟩
theorem wq_2_222 : (Jvm.Cond.classLink "FencedLedgerLaw" (13 : Nat) "java/lang/IllegalStateException") ∈ fw_ws := List.mem_filter.mpr ⟨fw_in2 (List.mem_of_getElem? (l := tables_1_2) (i := 222) rfl), rfl⟩
theorem wq_2_223 : (Jvm.Cond.classLink "FencedLedgerLaw" (15 : Nat) "java/lang/IndexOutOfBoundsException") ∈ fw_ws := List.mem_filter.mpr ⟨fw_in2 (List.mem_of_getElem? (l := tables_1_2) (i := 223) rfl), rfl⟩
theorem wq_2_224 : (Jvm.Cond.methodLink "FencedLedgerLaw" (7 : Nat) ({ cls := "FencedLedger", name := "add", desc := "(I)I" } : Jvm.MethodName)) ∈ fw_ws := List.mem_filter.mpr ⟨fw_in2 (List.mem_of_getElem? (l := tables_1_2) (i := 224) rfl), rfl⟩
theorem wq_2_225 : (Jvm.Cond.instanceMethod ({ cls := "FencedLedger", name := "add", desc := "(I)I" } : Jvm.MethodName)) ∈ fw_ws := List.mem_filter.mpr ⟨fw_in2 (List.mem_of_getElem? (l := tables_1_2) (i := 225) rfl), rfl⟩
theorem wq_2_226 : (Jvm.Cond.selects "FencedLedger" ({ cls := "FencedLedger", name := "add", desc := "(I)I" } : Jvm.MethodName) ({ cls := "FencedLedger", name := "add", desc := "(I)I" } : Jvm.MethodName)) ∈ fw_ws := List.mem_filter.mpr ⟨fw_in2 (List.mem_of_getElem? (l := tables_1_2) (i := 226) rfl), rfl⟩
theorem wq_2_227 : (Jvm.Cond.code ({ cls := "FencedLedger", name := "add", desc := "(I)I" } : Jvm.MethodName) prog_1_method_2_code (3 : Nat) (Option.some Jvm.ClassFile.FieldType.int)) ∈ fw_ws := List.mem_filter.mpr ⟨fw_in2 (List.mem_of_getElem? (l := tables_1_2) (i := 227) rfl), rfl⟩
theorem wq_2_228 : (Jvm.Cond.classLink "FencedLedger" (65 : Nat) "java/lang/IllegalStateException") ∈ fw_ws := List.mem_filter.mpr ⟨fw_in2 (List.mem_of_getElem? (l := tables_1_2) (i := 228) rfl), rfl⟩
theorem wq_3_58 : (Jvm.Cond.instanceMethod ({ cls := "FencedLedger$Writer", name := "isFull", desc := "()Z" } : Jvm.MethodName)) ∈ fw_ws := List.mem_filter.mpr ⟨fw_in3 (List.mem_of_getElem? (l := tables_1_3) (i := 58) rfl), rfl⟩
theorem wq_3_59 : (Jvm.Cond.code ({ cls := "FencedLedger$Writer", name := "isFull", desc := "()Z" } : Jvm.MethodName) prog_6_method_2_code (1 : Nat) (Option.some Jvm.ClassFile.FieldType.boolean)) ∈ fw_ws := List.mem_filter.mpr ⟨fw_in3 (List.mem_of_getElem? (l := tables_1_3) (i := 59) rfl), rfl⟩
theorem wq_3_60 : (Jvm.Cond.classLink "FencedLedger" (76 : Nat) "java/lang/IndexOutOfBoundsException") ∈ fw_ws := List.mem_filter.mpr ⟨fw_in3 (List.mem_of_getElem? (l := tables_1_3) (i := 60) rfl), rfl⟩
theorem wq_3_78 : (Jvm.Cond.instanceMethod ({ cls := "FencedLedger$Writer", name := "append", desc := "(I)I" } : Jvm.MethodName)) ∈ fw_ws := List.mem_filter.mpr ⟨fw_in3 (List.mem_of_getElem? (l := tables_1_3) (i := 78) rfl), rfl⟩
theorem wq_3_79 : (Jvm.Cond.code ({ cls := "FencedLedger$Writer", name := "append", desc := "(I)I" } : Jvm.MethodName) prog_6_method_4_code (3 : Nat) (Option.some Jvm.ClassFile.FieldType.int)) ∈ fw_ws := List.mem_filter.mpr ⟨fw_in3 (List.mem_of_getElem? (l := tables_1_3) (i := 79) rfl), rfl⟩
theorem wq_3_83 : (Jvm.Cond.classLink "FencedLedgerLaw" (20 : Nat) "java/lang/UnsupportedOperationException") ∈ fw_ws := List.mem_filter.mpr ⟨fw_in3 (List.mem_of_getElem? (l := tables_1_3) (i := 83) rfl), rfl⟩
theorem wq_3_84 : (Jvm.Cond.methodLink "FencedLedgerLaw" (17 : Nat) ({ cls := "FencedLedger", name := "read", desc := "(I)I" } : Jvm.MethodName)) ∈ fw_ws := List.mem_filter.mpr ⟨fw_in3 (List.mem_of_getElem? (l := tables_1_3) (i := 84) rfl), rfl⟩
theorem wq_3_85 : (Jvm.Cond.instanceMethod ({ cls := "FencedLedger", name := "read", desc := "(I)I" } : Jvm.MethodName)) ∈ fw_ws := List.mem_filter.mpr ⟨fw_in3 (List.mem_of_getElem? (l := tables_1_3) (i := 85) rfl), rfl⟩
theorem wq_3_86 : (Jvm.Cond.selects "FencedLedger" ({ cls := "FencedLedger", name := "read", desc := "(I)I" } : Jvm.MethodName) ({ cls := "FencedLedger", name := "read", desc := "(I)I" } : Jvm.MethodName)) ∈ fw_ws := List.mem_filter.mpr ⟨fw_in3 (List.mem_of_getElem? (l := tables_1_3) (i := 86) rfl), rfl⟩
theorem wq_3_87 : (Jvm.Cond.code ({ cls := "FencedLedger", name := "read", desc := "(I)I" } : Jvm.MethodName) prog_1_method_20_code (3 : Nat) (Option.some Jvm.ClassFile.FieldType.int)) ∈ fw_ws := List.mem_filter.mpr ⟨fw_in3 (List.mem_of_getElem? (l := tables_1_3) (i := 87) rfl), rfl⟩
theorem wq_3_90 : (Jvm.Cond.methodLink "FencedLedger" (177 : Nat) ({ cls := "FencedLedger", name := "firstUpWith", desc := "(I)I" } : Jvm.MethodName)) ∈ fw_ws := List.mem_filter.mpr ⟨fw_in3 (List.mem_of_getElem? (l := tables_1_3) (i := 90) rfl), rfl⟩
theorem wq_3_92 : (Jvm.Cond.instanceMethod ({ cls := "FencedLedger", name := "firstUpWith", desc := "(I)I" } : Jvm.MethodName)) ∈ fw_ws := List.mem_filter.mpr ⟨fw_in3 (List.mem_of_getElem? (l := tables_1_3) (i := 92) rfl), rfl⟩
theorem wq_3_93 : (Jvm.Cond.code ({ cls := "FencedLedger", name := "firstUpWith", desc := "(I)I" } : Jvm.MethodName) prog_1_method_26_code (4 : Nat) (Option.some Jvm.ClassFile.FieldType.int)) ∈ fw_ws := List.mem_filter.mpr ⟨fw_in3 (List.mem_of_getElem? (l := tables_1_3) (i := 93) rfl), rfl⟩
theorem wq_3_94 : (Jvm.Cond.classLink "FencedLedger" (180 : Nat) "java/lang/UnsupportedOperationException") ∈ fw_ws := List.mem_filter.mpr ⟨fw_in3 (List.mem_of_getElem? (l := tables_1_3) (i := 94) rfl), rfl⟩
theorem wq_3_115 : (Jvm.Cond.methodLink "FencedLedgerModel" (1 : Nat) ({ cls := "java/lang/Object", name := "<init>", desc := "()V" } : Jvm.MethodName)) ∈ fw_ws := List.mem_filter.mpr ⟨fw_in3 (List.mem_of_getElem? (l := tables_1_3) (i := 115) rfl), rfl⟩
theorem wq_3_116 : (Jvm.Cond.fieldLink "FencedLedgerModel" (69 : Nat) "FencedLedgerModel" "thrown" "I") ∈ fw_ws := List.mem_filter.mpr ⟨fw_in3 (List.mem_of_getElem? (l := tables_1_3) (i := 116) rfl), rfl⟩
theorem wq_3_117 : (Jvm.Cond.fieldLink "FencedLedgerModel" (60 : Nat) "FencedLedgerModel" "stores" "I") ∈ fw_ws := List.mem_filter.mpr ⟨fw_in3 (List.mem_of_getElem? (l := tables_1_3) (i := 117) rfl), rfl⟩
theorem wq_3_118 : (Jvm.Cond.fieldLink "FencedLedgerModel" (63 : Nat) "FencedLedgerModel" "width" "I") ∈ fw_ws := List.mem_filter.mpr ⟨fw_in3 (List.mem_of_getElem? (l := tables_1_3) (i := 118) rfl), rfl⟩
theorem wq_3_119 : (Jvm.Cond.fieldLink "FencedLedgerModel" (66 : Nat) "FencedLedgerModel" "quorum" "I") ∈ fw_ws := List.mem_filter.mpr ⟨fw_in3 (List.mem_of_getElem? (l := tables_1_3) (i := 119) rfl), rfl⟩
theorem wq_3_120 : (Jvm.Cond.fieldLink "FencedLedgerModel" (7 : Nat) "FencedLedgerModel" "off" "[Z") ∈ fw_ws := List.mem_filter.mpr ⟨fw_in3 (List.mem_of_getElem? (l := tables_1_3) (i := 120) rfl), rfl⟩
theorem wq_3_121 : (Jvm.Cond.fieldLink "FencedLedgerModel" (13 : Nat) "FencedLedgerModel" "fenced" "[Z") ∈ fw_ws := List.mem_filter.mpr ⟨fw_in3 (List.mem_of_getElem? (l := tables_1_3) (i := 121) rfl), rfl⟩
theorem wq_3_122 : (Jvm.Cond.fieldLink "FencedLedgerModel" (16 : Nat) "FencedLedgerModel" "mark" "[I") ∈ fw_ws := List.mem_filter.mpr ⟨fw_in3 (List.mem_of_getElem? (l := tables_1_3) (i := 122) rfl), rfl⟩
theorem wq_3_123 : (Jvm.Cond.fieldLink "FencedLedgerModel" (20 : Nat) "FencedLedgerModel" "held" "[Z") ∈ fw_ws := List.mem_filter.mpr ⟨fw_in3 (List.mem_of_getElem? (l := tables_1_3) (i := 123) rfl), rfl⟩
theorem wq_3_124 : (Jvm.Cond.fieldLink "FencedLedgerModel" (23 : Nat) "FencedLedgerModel" "heldValue" "[I") ∈ fw_ws := List.mem_filter.mpr ⟨fw_in3 (List.mem_of_getElem? (l := tables_1_3) (i := 124) rfl), rfl⟩
theorem wq_3_125 : (Jvm.Cond.fieldLink "FencedLedgerModel" (115 : Nat) "FencedLedgerModel" "stage" "I") ∈ fw_ws := List.mem_filter.mpr ⟨fw_in3 (List.mem_of_getElem? (l := tables_1_3) (i := 125) rfl), rfl⟩
theorem wq_3_126 : (Jvm.Cond.fieldLink "FencedLedgerModel" (118 : Nat) "FencedLedgerModel" "version" "I") ∈ fw_ws := List.mem_filter.mpr ⟨fw_in3 (List.mem_of_getElem? (l := tables_1_3) (i := 126) rfl), rfl⟩
theorem wq_3_127 : (Jvm.Cond.fieldLink "FencedLedgerModel" (26 : Nat) "FencedLedgerModel" "last" "I") ∈ fw_ws := List.mem_filter.mpr ⟨fw_in3 (List.mem_of_getElem? (l := tables_1_3) (i := 127) rfl), rfl⟩
theorem wq_3_128 : (Jvm.Cond.fieldLink "FencedLedgerModel" (72 : Nat) "FencedLedgerModel" "flying" "I") ∈ fw_ws := List.mem_filter.mpr ⟨fw_in3 (List.mem_of_getElem? (l := tables_1_3) (i := 128) rfl), rfl⟩
theorem wq_3_129 : (Jvm.Cond.fieldLink "FencedLedgerModel" (30 : Nat) "FencedLedgerModel" "fly" "[I") ∈ fw_ws := List.mem_filter.mpr ⟨fw_in3 (List.mem_of_getElem? (l := tables_1_3) (i := 129) rfl), rfl⟩
theorem wq_3_130 : (Jvm.Cond.fieldLink "FencedLedgerModel" (102 : Nat) "FencedLedgerModel" "writing" "I") ∈ fw_ws := List.mem_filter.mpr ⟨fw_in3 (List.mem_of_getElem? (l := tables_1_3) (i := 130) rfl), rfl⟩
theorem wq_3_131 : (Jvm.Cond.fieldLink "FencedLedgerModel" (105 : Nat) "FencedLedgerModel" "added" "I") ∈ fw_ws := List.mem_filter.mpr ⟨fw_in3 (List.mem_of_getElem? (l := tables_1_3) (i := 131) rfl), rfl⟩
theorem wq_3_132 : (Jvm.Cond.fieldLink "FencedLedgerModel" (33 : Nat) "FencedLedgerModel" "lac" "I") ∈ fw_ws := List.mem_filter.mpr ⟨fw_in3 (List.mem_of_getElem? (l := tables_1_3) (i := 132) rfl), rfl⟩
theorem wq_3_133 : (Jvm.Cond.fieldLink "FencedLedgerModel" (36 : Nat) "FencedLedgerModel" "written" "[I") ∈ fw_ws := List.mem_filter.mpr ⟨fw_in3 (List.mem_of_getElem? (l := tables_1_3) (i := 133) rfl), rfl⟩
theorem wq_3_134 : (Jvm.Cond.fieldLink "FencedLedgerModel" (39 : Nat) "FencedLedgerModel" "acked" "[Z") ∈ fw_ws := List.mem_filter.mpr ⟨fw_in3 (List.mem_of_getElem? (l := tables_1_3) (i := 134) rfl), rfl⟩
theorem wq_3_135 : (Jvm.Cond.fieldLink "FencedLedgerModel" (42 : Nat) "FencedLedgerModel" "mode" "[I") ∈ fw_ws := List.mem_filter.mpr ⟨fw_in3 (List.mem_of_getElem? (l := tables_1_3) (i := 135) rfl), rfl⟩
theorem wq_3_136 : (Jvm.Cond.fieldLink "FencedLedgerModel" (45 : Nat) "FencedLedgerModel" "term" "[I") ∈ fw_ws := List.mem_filter.mpr ⟨fw_in3 (List.mem_of_getElem? (l := tables_1_3) (i := 136) rfl), rfl⟩
theorem wq_3_137 : (Jvm.Cond.fieldLink "FencedLedgerModel" (48 : Nat) "FencedLedgerModel" "at" "[I") ∈ fw_ws := List.mem_filter.mpr ⟨fw_in3 (List.mem_of_getElem? (l := tables_1_3) (i := 137) rfl), rfl⟩
theorem wq_3_138 : (Jvm.Cond.fieldLink "FencedLedgerModel" (51 : Nat) "FencedLedgerModel" "highest" "[I") ∈ fw_ws := List.mem_filter.mpr ⟨fw_in3 (List.mem_of_getElem? (l := tables_1_3) (i := 138) rfl), rfl⟩
theorem wq_3_139 : (Jvm.Cond.fieldLink "FencedLedgerModel" (54 : Nat) "FencedLedgerModel" "back" "[I") ∈ fw_ws := List.mem_filter.mpr ⟨fw_in3 (List.mem_of_getElem? (l := tables_1_3) (i := 139) rfl), rfl⟩
theorem wq_3_140 : (Jvm.Cond.fieldLink "FencedLedgerModel" (57 : Nat) "FencedLedgerModel" "answered" "[Z") ∈ fw_ws := List.mem_filter.mpr ⟨fw_in3 (List.mem_of_getElem? (l := tables_1_3) (i := 140) rfl), rfl⟩
theorem wq_3_141 : (Jvm.Cond.lays "FencedLedgerModel" "FencedLedgerModel" "thrown" "I") ∈ fw_ws := List.mem_filter.mpr ⟨fw_in3 (List.mem_of_getElem? (l := tables_1_3) (i := 141) rfl), rfl⟩
theorem wq_3_143 : (Jvm.Cond.lays "FencedLedgerModel" "FencedLedgerModel" "stores" "I") ∈ fw_ws := List.mem_filter.mpr ⟨fw_in3 (List.mem_of_getElem? (l := tables_1_3) (i := 143) rfl), rfl⟩
theorem wq_3_145 : (Jvm.Cond.lays "FencedLedgerModel" "FencedLedgerModel" "width" "I") ∈ fw_ws := List.mem_filter.mpr ⟨fw_in3 (List.mem_of_getElem? (l := tables_1_3) (i := 145) rfl), rfl⟩
theorem wq_3_147 : (Jvm.Cond.lays "FencedLedgerModel" "FencedLedgerModel" "quorum" "I") ∈ fw_ws := List.mem_filter.mpr ⟨fw_in3 (List.mem_of_getElem? (l := tables_1_3) (i := 147) rfl), rfl⟩
theorem wq_3_149 : (Jvm.Cond.lays "FencedLedgerModel" "FencedLedgerModel" "off" "[Z") ∈ fw_ws := List.mem_filter.mpr ⟨fw_in3 (List.mem_of_getElem? (l := tables_1_3) (i := 149) rfl), rfl⟩
theorem wq_3_151 : (Jvm.Cond.lays "FencedLedgerModel" "FencedLedgerModel" "fenced" "[Z") ∈ fw_ws := List.mem_filter.mpr ⟨fw_in3 (List.mem_of_getElem? (l := tables_1_3) (i := 151) rfl), rfl⟩
theorem wq_3_153 : (Jvm.Cond.lays "FencedLedgerModel" "FencedLedgerModel" "mark" "[I") ∈ fw_ws := List.mem_filter.mpr ⟨fw_in3 (List.mem_of_getElem? (l := tables_1_3) (i := 153) rfl), rfl⟩
theorem wq_3_155 : (Jvm.Cond.lays "FencedLedgerModel" "FencedLedgerModel" "held" "[Z") ∈ fw_ws := List.mem_filter.mpr ⟨fw_in3 (List.mem_of_getElem? (l := tables_1_3) (i := 155) rfl), rfl⟩
theorem wq_3_157 : (Jvm.Cond.lays "FencedLedgerModel" "FencedLedgerModel" "heldValue" "[I") ∈ fw_ws := List.mem_filter.mpr ⟨fw_in3 (List.mem_of_getElem? (l := tables_1_3) (i := 157) rfl), rfl⟩
theorem wq_3_159 : (Jvm.Cond.lays "FencedLedgerModel" "FencedLedgerModel" "stage" "I") ∈ fw_ws := List.mem_filter.mpr ⟨fw_in3 (List.mem_of_getElem? (l := tables_1_3) (i := 159) rfl), rfl⟩
theorem wq_3_161 : (Jvm.Cond.lays "FencedLedgerModel" "FencedLedgerModel" "version" "I") ∈ fw_ws := List.mem_filter.mpr ⟨fw_in3 (List.mem_of_getElem? (l := tables_1_3) (i := 161) rfl), rfl⟩
theorem wq_3_163 : (Jvm.Cond.lays "FencedLedgerModel" "FencedLedgerModel" "last" "I") ∈ fw_ws := List.mem_filter.mpr ⟨fw_in3 (List.mem_of_getElem? (l := tables_1_3) (i := 163) rfl), rfl⟩
theorem wq_3_165 : (Jvm.Cond.lays "FencedLedgerModel" "FencedLedgerModel" "flying" "I") ∈ fw_ws := List.mem_filter.mpr ⟨fw_in3 (List.mem_of_getElem? (l := tables_1_3) (i := 165) rfl), rfl⟩
theorem wq_3_167 : (Jvm.Cond.lays "FencedLedgerModel" "FencedLedgerModel" "fly" "[I") ∈ fw_ws := List.mem_filter.mpr ⟨fw_in3 (List.mem_of_getElem? (l := tables_1_3) (i := 167) rfl), rfl⟩
theorem wq_3_169 : (Jvm.Cond.lays "FencedLedgerModel" "FencedLedgerModel" "writing" "I") ∈ fw_ws := List.mem_filter.mpr ⟨fw_in3 (List.mem_of_getElem? (l := tables_1_3) (i := 169) rfl), rfl⟩
theorem wq_3_171 : (Jvm.Cond.lays "FencedLedgerModel" "FencedLedgerModel" "added" "I") ∈ fw_ws := List.mem_filter.mpr ⟨fw_in3 (List.mem_of_getElem? (l := tables_1_3) (i := 171) rfl), rfl⟩
theorem wq_3_173 : (Jvm.Cond.lays "FencedLedgerModel" "FencedLedgerModel" "lac" "I") ∈ fw_ws := List.mem_filter.mpr ⟨fw_in3 (List.mem_of_getElem? (l := tables_1_3) (i := 173) rfl), rfl⟩
theorem wq_3_175 : (Jvm.Cond.lays "FencedLedgerModel" "FencedLedgerModel" "written" "[I") ∈ fw_ws := List.mem_filter.mpr ⟨fw_in3 (List.mem_of_getElem? (l := tables_1_3) (i := 175) rfl), rfl⟩
theorem wq_3_177 : (Jvm.Cond.lays "FencedLedgerModel" "FencedLedgerModel" "acked" "[Z") ∈ fw_ws := List.mem_filter.mpr ⟨fw_in3 (List.mem_of_getElem? (l := tables_1_3) (i := 177) rfl), rfl⟩
theorem wq_3_179 : (Jvm.Cond.lays "FencedLedgerModel" "FencedLedgerModel" "mode" "[I") ∈ fw_ws := List.mem_filter.mpr ⟨fw_in3 (List.mem_of_getElem? (l := tables_1_3) (i := 179) rfl), rfl⟩
theorem wq_3_181 : (Jvm.Cond.lays "FencedLedgerModel" "FencedLedgerModel" "term" "[I") ∈ fw_ws := List.mem_filter.mpr ⟨fw_in3 (List.mem_of_getElem? (l := tables_1_3) (i := 181) rfl), rfl⟩
theorem wq_3_183 : (Jvm.Cond.lays "FencedLedgerModel" "FencedLedgerModel" "at" "[I") ∈ fw_ws := List.mem_filter.mpr ⟨fw_in3 (List.mem_of_getElem? (l := tables_1_3) (i := 183) rfl), rfl⟩
theorem wq_3_185 : (Jvm.Cond.lays "FencedLedgerModel" "FencedLedgerModel" "highest" "[I") ∈ fw_ws := List.mem_filter.mpr ⟨fw_in3 (List.mem_of_getElem? (l := tables_1_3) (i := 185) rfl), rfl⟩
theorem wq_3_187 : (Jvm.Cond.lays "FencedLedgerModel" "FencedLedgerModel" "back" "[I") ∈ fw_ws := List.mem_filter.mpr ⟨fw_in3 (List.mem_of_getElem? (l := tables_1_3) (i := 187) rfl), rfl⟩
theorem wq_3_189 : (Jvm.Cond.lays "FencedLedgerModel" "FencedLedgerModel" "answered" "[Z") ∈ fw_ws := List.mem_filter.mpr ⟨fw_in3 (List.mem_of_getElem? (l := tables_1_3) (i := 189) rfl), rfl⟩
theorem wq_3_200 : (Jvm.Cond.methodLink "FencedLedgerModel" (75 : Nat) ({ cls := "FencedLedgerModel", name := "isMessage", desc := "(I)Z" } : Jvm.MethodName)) ∈ fw_ws := List.mem_filter.mpr ⟨fw_in3 (List.mem_of_getElem? (l := tables_1_3) (i := 200) rfl), rfl⟩
theorem wq_3_202 : (Jvm.Cond.instanceMethod ({ cls := "FencedLedgerModel", name := "isMessage", desc := "(I)Z" } : Jvm.MethodName)) ∈ fw_ws := List.mem_filter.mpr ⟨fw_in3 (List.mem_of_getElem? (l := tables_1_3) (i := 202) rfl), rfl⟩
theorem wq_3_203 : (Jvm.Cond.code ({ cls := "FencedLedgerModel", name := "isMessage", desc := "(I)Z" } : Jvm.MethodName) prog_8_method_5_code (2 : Nat) (Option.some Jvm.ClassFile.FieldType.boolean)) ∈ fw_ws := List.mem_filter.mpr ⟨fw_in3 (List.mem_of_getElem? (l := tables_1_3) (i := 203) rfl), rfl⟩
theorem wq_3_204 : (Jvm.Cond.methodLink "FencedLedgerModel" (79 : Nat) ({ cls := "FencedLedgerModel", name := "remove", desc := "(I)V" } : Jvm.MethodName)) ∈ fw_ws := List.mem_filter.mpr ⟨fw_in3 (List.mem_of_getElem? (l := tables_1_3) (i := 204) rfl), rfl⟩
theorem wq_3_206 : (Jvm.Cond.instanceMethod ({ cls := "FencedLedgerModel", name := "remove", desc := "(I)V" } : Jvm.MethodName)) ∈ fw_ws := List.mem_filter.mpr ⟨fw_in3 (List.mem_of_getElem? (l := tables_1_3) (i := 206) rfl), rfl⟩
theorem wq_3_207 : (Jvm.Cond.code ({ cls := "FencedLedgerModel", name := "remove", desc := "(I)V" } : Jvm.MethodName) prog_8_method_4_code (3 : Nat) (Option.none : Option Jvm.ClassFile.FieldType)) ∈ fw_ws := List.mem_filter.mpr ⟨fw_in3 (List.mem_of_getElem? (l := tables_1_3) (i := 207) rfl), rfl⟩
theorem wq_3_208 : (Jvm.Cond.methodLink "FencedLedgerModel" (83 : Nat) ({ cls := "FencedLedgerModel", name := "keep", desc := "(IIIIII)V" } : Jvm.MethodName)) ∈ fw_ws := List.mem_filter.mpr ⟨fw_in3 (List.mem_of_getElem? (l := tables_1_3) (i := 208) rfl), rfl⟩
theorem wq_3_210 : (Jvm.Cond.instanceMethod ({ cls := "FencedLedgerModel", name := "keep", desc := "(IIIIII)V" } : Jvm.MethodName)) ∈ fw_ws := List.mem_filter.mpr ⟨fw_in3 (List.mem_of_getElem? (l := tables_1_3) (i := 210) rfl), rfl⟩
theorem wq_3_211 : (Jvm.Cond.code ({ cls := "FencedLedgerModel", name := "keep", desc := "(IIIIII)V" } : Jvm.MethodName) prog_8_method_10_code (7 : Nat) (Option.none : Option Jvm.ClassFile.FieldType)) ∈ fw_ws := List.mem_filter.mpr ⟨fw_in3 (List.mem_of_getElem? (l := tables_1_3) (i := 211) rfl), rfl⟩
theorem wq_3_212 : (Jvm.Cond.methodLink "FencedLedgerModel" (98 : Nat) ({ cls := "FencedLedgerModel", name := "send", desc := "(IIIIIII)V" } : Jvm.MethodName)) ∈ fw_ws := List.mem_filter.mpr ⟨fw_in3 (List.mem_of_getElem? (l := tables_1_3) (i := 212) rfl), rfl⟩
theorem wq_3_214 : (Jvm.Cond.instanceMethod ({ cls := "FencedLedgerModel", name := "send", desc := "(IIIIIII)V" } : Jvm.MethodName)) ∈ fw_ws := List.mem_filter.mpr ⟨fw_in3 (List.mem_of_getElem? (l := tables_1_3) (i := 214) rfl), rfl⟩
theorem wq_3_215 : (Jvm.Cond.code ({ cls := "FencedLedgerModel", name := "send", desc := "(IIIIIII)V" } : Jvm.MethodName) prog_8_method_3_code (9 : Nat) (Option.none : Option Jvm.ClassFile.FieldType)) ∈ fw_ws := List.mem_filter.mpr ⟨fw_in3 (List.mem_of_getElem? (l := tables_1_3) (i := 215) rfl), rfl⟩
theorem wq_3_216 : (Jvm.Cond.methodLink "FencedLedgerModel" (87 : Nat) ({ cls := "FencedLedgerModel", name := "fence", desc := "(IIIII)V" } : Jvm.MethodName)) ∈ fw_ws := List.mem_filter.mpr ⟨fw_in3 (List.mem_of_getElem? (l := tables_1_3) (i := 216) rfl), rfl⟩
theorem wq_3_218 : (Jvm.Cond.instanceMethod ({ cls := "FencedLedgerModel", name := "fence", desc := "(IIIII)V" } : Jvm.MethodName)) ∈ fw_ws := List.mem_filter.mpr ⟨fw_in3 (List.mem_of_getElem? (l := tables_1_3) (i := 218) rfl), rfl⟩
theorem wq_3_219 : (Jvm.Cond.code ({ cls := "FencedLedgerModel", name := "fence", desc := "(IIIII)V" } : Jvm.MethodName) prog_8_method_11_code (6 : Nat) (Option.none : Option Jvm.ClassFile.FieldType)) ∈ fw_ws := List.mem_filter.mpr ⟨fw_in3 (List.mem_of_getElem? (l := tables_1_3) (i := 219) rfl), rfl⟩
theorem wq_3_220 : (Jvm.Cond.methodLink "FencedLedgerModel" (91 : Nat) ({ cls := "FencedLedgerModel", name := "hears", desc := "(III)V" } : Jvm.MethodName)) ∈ fw_ws := List.mem_filter.mpr ⟨fw_in3 (List.mem_of_getElem? (l := tables_1_3) (i := 220) rfl), rfl⟩
theorem wq_3_222 : (Jvm.Cond.instanceMethod ({ cls := "FencedLedgerModel", name := "hears", desc := "(III)V" } : Jvm.MethodName)) ∈ fw_ws := List.mem_filter.mpr ⟨fw_in3 (List.mem_of_getElem? (l := tables_1_3) (i := 222) rfl), rfl⟩
theorem wq_3_223 : (Jvm.Cond.code ({ cls := "FencedLedgerModel", name := "hears", desc := "(III)V" } : Jvm.MethodName) prog_8_method_13_code (6 : Nat) (Option.none : Option Jvm.ClassFile.FieldType)) ∈ fw_ws := List.mem_filter.mpr ⟨fw_in3 (List.mem_of_getElem? (l := tables_1_3) (i := 223) rfl), rfl⟩
theorem wq_3_224 : (Jvm.Cond.methodLink "FencedLedgerModel" (108 : Nat) ({ cls := "FencedLedgerModel", name := "ackCount", desc := "(I)I" } : Jvm.MethodName)) ∈ fw_ws := List.mem_filter.mpr ⟨fw_in3 (List.mem_of_getElem? (l := tables_1_3) (i := 224) rfl), rfl⟩
theorem wq_3_226 : (Jvm.Cond.instanceMethod ({ cls := "FencedLedgerModel", name := "ackCount", desc := "(I)I" } : Jvm.MethodName)) ∈ fw_ws := List.mem_filter.mpr ⟨fw_in3 (List.mem_of_getElem? (l := tables_1_3) (i := 226) rfl), rfl⟩
theorem wq_3_227 : (Jvm.Cond.code ({ cls := "FencedLedgerModel", name := "ackCount", desc := "(I)I" } : Jvm.MethodName) prog_8_method_12_code (4 : Nat) (Option.some Jvm.ClassFile.FieldType.int)) ∈ fw_ws := List.mem_filter.mpr ⟨fw_in3 (List.mem_of_getElem? (l := tables_1_3) (i := 227) rfl), rfl⟩
theorem wq_3_228 : (Jvm.Cond.methodLink "FencedLedgerModel" (95 : Nat) ({ cls := "FencedLedgerModel", name := "learns", desc := "(IIIII)V" } : Jvm.MethodName)) ∈ fw_ws := List.mem_filter.mpr ⟨fw_in3 (List.mem_of_getElem? (l := tables_1_3) (i := 228) rfl), rfl⟩
theorem wq_3_230 : (Jvm.Cond.instanceMethod ({ cls := "FencedLedgerModel", name := "learns", desc := "(IIIII)V" } : Jvm.MethodName)) ∈ fw_ws := List.mem_filter.mpr ⟨fw_in3 (List.mem_of_getElem? (l := tables_1_3) (i := 230) rfl), rfl⟩
theorem wq_3_231 : (Jvm.Cond.code ({ cls := "FencedLedgerModel", name := "learns", desc := "(IIIII)V" } : Jvm.MethodName) prog_8_method_25_code (8 : Nat) (Option.none : Option Jvm.ClassFile.FieldType)) ∈ fw_ws := List.mem_filter.mpr ⟨fw_in3 (List.mem_of_getElem? (l := tables_1_3) (i := 231) rfl), rfl⟩
theorem wq_3_232 : (Jvm.Cond.methodLink "FencedLedgerModel" (131 : Nat) ({ cls := "FencedLedgerModel", name := "covers", desc := "(I)Z" } : Jvm.MethodName)) ∈ fw_ws := List.mem_filter.mpr ⟨fw_in3 (List.mem_of_getElem? (l := tables_1_3) (i := 232) rfl), rfl⟩
theorem wq_3_234 : (Jvm.Cond.instanceMethod ({ cls := "FencedLedgerModel", name := "covers", desc := "(I)Z" } : Jvm.MethodName)) ∈ fw_ws := List.mem_filter.mpr ⟨fw_in3 (List.mem_of_getElem? (l := tables_1_3) (i := 234) rfl), rfl⟩
theorem wq_3_235 : (Jvm.Cond.code ({ cls := "FencedLedgerModel", name := "covers", desc := "(I)Z" } : Jvm.MethodName) prog_8_method_24_code (6 : Nat) (Option.some Jvm.ClassFile.FieldType.boolean)) ∈ fw_ws := List.mem_filter.mpr ⟨fw_in3 (List.mem_of_getElem? (l := tables_1_3) (i := 235) rfl), rfl⟩
theorem wq_3_236 : (Jvm.Cond.methodLink "FencedLedgerModel" (134 : Nat) ({ cls := "FencedLedgerModel", name := "readOn", desc := "(II)V" } : Jvm.MethodName)) ∈ fw_ws := List.mem_filter.mpr ⟨fw_in3 (List.mem_of_getElem? (l := tables_1_3) (i := 236) rfl), rfl⟩
theorem wq_3_238 : (Jvm.Cond.instanceMethod ({ cls := "FencedLedgerModel", name := "readOn", desc := "(II)V" } : Jvm.MethodName)) ∈ fw_ws := List.mem_filter.mpr ⟨fw_in3 (List.mem_of_getElem? (l := tables_1_3) (i := 238) rfl), rfl⟩
theorem wq_3_239 : (Jvm.Cond.code ({ cls := "FencedLedgerModel", name := "readOn", desc := "(II)V" } : Jvm.MethodName) prog_8_method_23_code (4 : Nat) (Option.none : Option Jvm.ClassFile.FieldType)) ∈ fw_ws := List.mem_filter.mpr ⟨fw_in3 (List.mem_of_getElem? (l := tables_1_3) (i := 239) rfl), rfl⟩
theorem wq_4_0 : (Jvm.Cond.methodLink "FencedLedgerModel" (121 : Nat) ({ cls := "FencedLedgerModel", name := "finish", desc := "(II)V" } : Jvm.MethodName)) ∈ fw_ws := List.mem_filter.mpr ⟨fw_in4 (List.mem_of_getElem? (l := tables_1_4) (i := 0) rfl), rfl⟩
theorem wq_4_2 : (Jvm.Cond.instanceMethod ({ cls := "FencedLedgerModel", name := "finish", desc := "(II)V" } : Jvm.MethodName)) ∈ fw_ws := List.mem_filter.mpr ⟨fw_in4 (List.mem_of_getElem? (l := tables_1_4) (i := 2) rfl), rfl⟩
theorem wq_4_3 : (Jvm.Cond.code ({ cls := "FencedLedgerModel", name := "finish", desc := "(II)V" } : Jvm.MethodName) prog_8_method_22_code (3 : Nat) (Option.none : Option Jvm.ClassFile.FieldType)) ∈ fw_ws := List.mem_filter.mpr ⟨fw_in4 (List.mem_of_getElem? (l := tables_1_4) (i := 3) rfl), rfl⟩
theorem wq_4_4 : (Jvm.Cond.methodLink "FencedLedgerModel" (125 : Nat) ({ cls := "FencedLedgerModel", name := "forget", desc := "(I)V" } : Jvm.MethodName)) ∈ fw_ws := List.mem_filter.mpr ⟨fw_in4 (List.mem_of_getElem? (l := tables_1_4) (i := 4) rfl), rfl⟩
theorem wq_4_6 : (Jvm.Cond.instanceMethod ({ cls := "FencedLedgerModel", name := "forget", desc := "(I)V" } : Jvm.MethodName)) ∈ fw_ws := List.mem_filter.mpr ⟨fw_in4 (List.mem_of_getElem? (l := tables_1_4) (i := 6) rfl), rfl⟩
theorem wq_4_7 : (Jvm.Cond.code ({ cls := "FencedLedgerModel", name := "forget", desc := "(I)V" } : Jvm.MethodName) prog_8_method_19_code (3 : Nat) (Option.none : Option Jvm.ClassFile.FieldType)) ∈ fw_ws := List.mem_filter.mpr ⟨fw_in4 (List.mem_of_getElem? (l := tables_1_4) (i := 7) rfl), rfl⟩
theorem wq_4_8 : (Jvm.Cond.methodLink "FencedLedgerModel" (128 : Nat) ({ cls := "FencedLedgerModel", name := "ask", desc := "(I)I" } : Jvm.MethodName)) ∈ fw_ws := List.mem_filter.mpr ⟨fw_in4 (List.mem_of_getElem? (l := tables_1_4) (i := 8) rfl), rfl⟩
theorem wq_4_10 : (Jvm.Cond.instanceMethod ({ cls := "FencedLedgerModel", name := "ask", desc := "(I)I" } : Jvm.MethodName)) ∈ fw_ws := List.mem_filter.mpr ⟨fw_in4 (List.mem_of_getElem? (l := tables_1_4) (i := 10) rfl), rfl⟩
theorem wq_4_11 : (Jvm.Cond.code ({ cls := "FencedLedgerModel", name := "ask", desc := "(I)I" } : Jvm.MethodName) prog_8_method_21_code (6 : Nat) (Option.some Jvm.ClassFile.FieldType.int)) ∈ fw_ws := List.mem_filter.mpr ⟨fw_in4 (List.mem_of_getElem? (l := tables_1_4) (i := 11) rfl), rfl⟩
theorem wq_4_12 : (Jvm.Cond.methodLink "FencedLedgerModel" (137 : Nat) ({ cls := "FencedLedgerModel", name := "answerCount", desc := "(I)I" } : Jvm.MethodName)) ∈ fw_ws := List.mem_filter.mpr ⟨fw_in4 (List.mem_of_getElem? (l := tables_1_4) (i := 12) rfl), rfl⟩
theorem wq_4_14 : (Jvm.Cond.instanceMethod ({ cls := "FencedLedgerModel", name := "answerCount", desc := "(I)I" } : Jvm.MethodName)) ∈ fw_ws := List.mem_filter.mpr ⟨fw_in4 (List.mem_of_getElem? (l := tables_1_4) (i := 14) rfl), rfl⟩
theorem wq_4_15 : (Jvm.Cond.code ({ cls := "FencedLedgerModel", name := "answerCount", desc := "(I)I" } : Jvm.MethodName) prog_8_method_20_code (4 : Nat) (Option.some Jvm.ClassFile.FieldType.int)) ∈ fw_ws := List.mem_filter.mpr ⟨fw_in4 (List.mem_of_getElem? (l := tables_1_4) (i := 15) rfl), rfl⟩
theorem wq_4_32 : (Jvm.Cond.methodLink "FencedLedgerModel" (112 : Nat) ({ cls := "FencedLedgerModel", name := "spread", desc := "(I)I" } : Jvm.MethodName)) ∈ fw_ws := List.mem_filter.mpr ⟨fw_in4 (List.mem_of_getElem? (l := tables_1_4) (i := 32) rfl), rfl⟩
theorem wq_4_34 : (Jvm.Cond.instanceMethod ({ cls := "FencedLedgerModel", name := "spread", desc := "(I)I" } : Jvm.MethodName)) ∈ fw_ws := List.mem_filter.mpr ⟨fw_in4 (List.mem_of_getElem? (l := tables_1_4) (i := 34) rfl), rfl⟩
theorem wq_4_35 : (Jvm.Cond.code ({ cls := "FencedLedgerModel", name := "spread", desc := "(I)I" } : Jvm.MethodName) prog_8_method_14_code (5 : Nat) (Option.some Jvm.ClassFile.FieldType.int)) ∈ fw_ws := List.mem_filter.mpr ⟨fw_in4 (List.mem_of_getElem? (l := tables_1_4) (i := 35) rfl), rfl⟩
theorem wq_4_52 : (Jvm.Cond.methodLink "FencedLedgerModel" (140 : Nat) ({ cls := "FencedLedgerModel", name := "isRecoverer", desc := "(I)Z" } : Jvm.MethodName)) ∈ fw_ws := List.mem_filter.mpr ⟨fw_in4 (List.mem_of_getElem? (l := tables_1_4) (i := 52) rfl), rfl⟩
theorem wq_4_53 : (Jvm.Cond.static ({ cls := "FencedLedgerModel", name := "isRecoverer", desc := "(I)Z" } : Jvm.MethodName)) ∈ fw_ws := List.mem_filter.mpr ⟨fw_in4 (List.mem_of_getElem? (l := tables_1_4) (i := 53) rfl), rfl⟩
theorem wq_4_54 : (Jvm.Cond.code ({ cls := "FencedLedgerModel", name := "isRecoverer", desc := "(I)Z" } : Jvm.MethodName) prog_8_method_26_code (1 : Nat) (Option.some Jvm.ClassFile.FieldType.boolean)) ∈ fw_ws := List.mem_filter.mpr ⟨fw_in4 (List.mem_of_getElem? (l := tables_1_4) (i := 54) rfl), rfl⟩
theorem wq_4_59 : (Jvm.Cond.methodLink "FencedLedgerModel" (143 : Nat) ({ cls := "FencedLedgerModel", name := "busy", desc := "(I)Z" } : Jvm.MethodName)) ∈ fw_ws := List.mem_filter.mpr ⟨fw_in4 (List.mem_of_getElem? (l := tables_1_4) (i := 59) rfl), rfl⟩
theorem wq_4_61 : (Jvm.Cond.instanceMethod ({ cls := "FencedLedgerModel", name := "busy", desc := "(I)Z" } : Jvm.MethodName)) ∈ fw_ws := List.mem_filter.mpr ⟨fw_in4 (List.mem_of_getElem? (l := tables_1_4) (i := 61) rfl), rfl⟩
theorem wq_4_62 : (Jvm.Cond.code ({ cls := "FencedLedgerModel", name := "busy", desc := "(I)Z" } : Jvm.MethodName) prog_8_method_28_code (2 : Nat) (Option.some Jvm.ClassFile.FieldType.boolean)) ∈ fw_ws := List.mem_filter.mpr ⟨fw_in4 (List.mem_of_getElem? (l := tables_1_4) (i := 62) rfl), rfl⟩
theorem wq_4_71 : (Jvm.Cond.methodLink "FencedLedgerModel" (146 : Nat) ({ cls := "FencedLedgerModel", name := "isStore", desc := "(I)Z" } : Jvm.MethodName)) ∈ fw_ws := List.mem_filter.mpr ⟨fw_in4 (List.mem_of_getElem? (l := tables_1_4) (i := 71) rfl), rfl⟩
theorem wq_4_73 : (Jvm.Cond.instanceMethod ({ cls := "FencedLedgerModel", name := "isStore", desc := "(I)Z" } : Jvm.MethodName)) ∈ fw_ws := List.mem_filter.mpr ⟨fw_in4 (List.mem_of_getElem? (l := tables_1_4) (i := 73) rfl), rfl⟩
theorem wq_4_74 : (Jvm.Cond.code ({ cls := "FencedLedgerModel", name := "isStore", desc := "(I)Z" } : Jvm.MethodName) prog_8_method_31_code (2 : Nat) (Option.some Jvm.ClassFile.FieldType.boolean)) ∈ fw_ws := List.mem_filter.mpr ⟨fw_in4 (List.mem_of_getElem? (l := tables_1_4) (i := 74) rfl), rfl⟩
theorem wn_1_36 : (Jvm.Cond.methodLinkNest "FencedLedger" (29 : Nat) ({ cls := "FencedLedger$Store", name := "<init>", desc := "()V" } : Jvm.MethodName) "FencedLedger") ∈ fw_nest := List.mem_filter.mpr ⟨fw_in1 (List.mem_of_getElem? (l := tables_1_1) (i := 36) rfl), rfl⟩
theorem wn_1_41 : (Jvm.Cond.fieldLinkNest "FencedLedger" (169 : Nat) "FencedLedger$Store" "kept" "[Z" "FencedLedger") ∈ fw_nest := List.mem_filter.mpr ⟨fw_in1 (List.mem_of_getElem? (l := tables_1_1) (i := 41) rfl), rfl⟩
theorem wn_1_43 : (Jvm.Cond.fieldLinkNest "FencedLedger" (185 : Nat) "FencedLedger$Store" "values" "[I" "FencedLedger") ∈ fw_nest := List.mem_filter.mpr ⟨fw_in1 (List.mem_of_getElem? (l := tables_1_1) (i := 43) rfl), rfl⟩
theorem wn_1_45 : (Jvm.Cond.fieldLinkNest "FencedLedger" (161 : Nat) "FencedLedger$Store" "up" "Z" "FencedLedger") ∈ fw_nest := List.mem_filter.mpr ⟨fw_in1 (List.mem_of_getElem? (l := tables_1_1) (i := 45) rfl), rfl⟩
theorem wn_1_47 : (Jvm.Cond.fieldLinkNest "FencedLedger" (235 : Nat) "FencedLedger$Store" "fenced" "Z" "FencedLedger") ∈ fw_nest := List.mem_filter.mpr ⟨fw_in1 (List.mem_of_getElem? (l := tables_1_1) (i := 47) rfl), rfl⟩
theorem wn_1_49 : (Jvm.Cond.fieldLinkNest "FencedLedger" (238 : Nat) "FencedLedger$Store" "mark" "I" "FencedLedger") ∈ fw_nest := List.mem_filter.mpr ⟨fw_in1 (List.mem_of_getElem? (l := tables_1_1) (i := 49) rfl), rfl⟩
theorem wn_1_68 : (Jvm.Cond.methodLinkNest "FencedLedger" (32 : Nat) ({ cls := "FencedLedger$Channel", name := "<init>", desc := "()V" } : Jvm.MethodName) "FencedLedger") ∈ fw_nest := List.mem_filter.mpr ⟨fw_in1 (List.mem_of_getElem? (l := tables_1_1) (i := 68) rfl), rfl⟩
theorem wn_1_75 : (Jvm.Cond.methodLinkNest "FencedLedger$Channel" (17 : Nat) ({ cls := "FencedLedger$Message", name := "<init>", desc := "()V" } : Jvm.MethodName) "FencedLedger") ∈ fw_nest := List.mem_filter.mpr ⟨fw_in1 (List.mem_of_getElem? (l := tables_1_1) (i := 75) rfl), rfl⟩
theorem wn_1_80 : (Jvm.Cond.fieldLinkNest "FencedLedger$Channel" (26 : Nat) "FencedLedger$Message" "kind" "I" "FencedLedger") ∈ fw_nest := List.mem_filter.mpr ⟨fw_in1 (List.mem_of_getElem? (l := tables_1_1) (i := 80) rfl), rfl⟩
theorem wn_1_81 : (Jvm.Cond.fieldLinkNest "FencedLedger$Writer" (34 : Nat) "FencedLedger$Message" "kind" "I" "FencedLedger") ∈ fw_nest := List.mem_filter.mpr ⟨fw_in1 (List.mem_of_getElem? (l := tables_1_1) (i := 81) rfl), rfl⟩
theorem wn_1_82 : (Jvm.Cond.fieldLinkNest "FencedLedger" (147 : Nat) "FencedLedger$Message" "kind" "I" "FencedLedger") ∈ fw_nest := List.mem_filter.mpr ⟨fw_in1 (List.mem_of_getElem? (l := tables_1_1) (i := 82) rfl), rfl⟩
theorem wn_1_84 : (Jvm.Cond.fieldLinkNest "FencedLedger$Channel" (29 : Nat) "FencedLedger$Message" "client" "I" "FencedLedger") ∈ fw_nest := List.mem_filter.mpr ⟨fw_in1 (List.mem_of_getElem? (l := tables_1_1) (i := 84) rfl), rfl⟩
theorem wn_1_85 : (Jvm.Cond.fieldLinkNest "FencedLedger" (137 : Nat) "FencedLedger$Message" "client" "I" "FencedLedger") ∈ fw_nest := List.mem_filter.mpr ⟨fw_in1 (List.mem_of_getElem? (l := tables_1_1) (i := 85) rfl), rfl⟩
theorem wn_1_87 : (Jvm.Cond.fieldLinkNest "FencedLedger$Channel" (32 : Nat) "FencedLedger$Message" "store" "I" "FencedLedger") ∈ fw_nest := List.mem_filter.mpr ⟨fw_in1 (List.mem_of_getElem? (l := tables_1_1) (i := 87) rfl), rfl⟩
theorem wn_1_88 : (Jvm.Cond.fieldLinkNest "FencedLedger$Writer" (42 : Nat) "FencedLedger$Message" "store" "I" "FencedLedger") ∈ fw_nest := List.mem_filter.mpr ⟨fw_in1 (List.mem_of_getElem? (l := tables_1_1) (i := 88) rfl), rfl⟩
theorem wn_1_89 : (Jvm.Cond.fieldLinkNest "FencedLedger" (228 : Nat) "FencedLedger$Message" "store" "I" "FencedLedger") ∈ fw_nest := List.mem_filter.mpr ⟨fw_in1 (List.mem_of_getElem? (l := tables_1_1) (i := 89) rfl), rfl⟩
theorem wn_1_91 : (Jvm.Cond.fieldLinkNest "FencedLedger$Channel" (35 : Nat) "FencedLedger$Message" "entry" "I" "FencedLedger") ∈ fw_nest := List.mem_filter.mpr ⟨fw_in1 (List.mem_of_getElem? (l := tables_1_1) (i := 91) rfl), rfl⟩
theorem wn_1_92 : (Jvm.Cond.fieldLinkNest "FencedLedger$Writer" (39 : Nat) "FencedLedger$Message" "entry" "I" "FencedLedger") ∈ fw_nest := List.mem_filter.mpr ⟨fw_in1 (List.mem_of_getElem? (l := tables_1_1) (i := 92) rfl), rfl⟩
theorem wn_1_93 : (Jvm.Cond.fieldLinkNest "FencedLedger" (245 : Nat) "FencedLedger$Message" "entry" "I" "FencedLedger") ∈ fw_nest := List.mem_filter.mpr ⟨fw_in1 (List.mem_of_getElem? (l := tables_1_1) (i := 93) rfl), rfl⟩
theorem wn_1_95 : (Jvm.Cond.fieldLinkNest "FencedLedger$Channel" (38 : Nat) "FencedLedger$Message" "value" "I" "FencedLedger") ∈ fw_nest := List.mem_filter.mpr ⟨fw_in1 (List.mem_of_getElem? (l := tables_1_1) (i := 95) rfl), rfl⟩
theorem wn_1_96 : (Jvm.Cond.fieldLinkNest "FencedLedger" (246 : Nat) "FencedLedger$Message" "value" "I" "FencedLedger") ∈ fw_nest := List.mem_filter.mpr ⟨fw_in1 (List.mem_of_getElem? (l := tables_1_1) (i := 96) rfl), rfl⟩
theorem wn_1_98 : (Jvm.Cond.fieldLinkNest "FencedLedger$Channel" (41 : Nat) "FencedLedger$Message" "term" "I" "FencedLedger") ∈ fw_nest := List.mem_filter.mpr ⟨fw_in1 (List.mem_of_getElem? (l := tables_1_1) (i := 98) rfl), rfl⟩
theorem wn_1_99 : (Jvm.Cond.fieldLinkNest "FencedLedger" (252 : Nat) "FencedLedger$Message" "term" "I" "FencedLedger") ∈ fw_nest := List.mem_filter.mpr ⟨fw_in1 (List.mem_of_getElem? (l := tables_1_1) (i := 99) rfl), rfl⟩
theorem wn_1_101 : (Jvm.Cond.fieldLinkNest "FencedLedger$Channel" (44 : Nat) "FencedLedger$Message" "mark" "I" "FencedLedger") ∈ fw_nest := List.mem_filter.mpr ⟨fw_in1 (List.mem_of_getElem? (l := tables_1_1) (i := 101) rfl), rfl⟩
theorem wn_1_102 : (Jvm.Cond.fieldLinkNest "FencedLedger" (247 : Nat) "FencedLedger$Message" "mark" "I" "FencedLedger") ∈ fw_nest := List.mem_filter.mpr ⟨fw_in1 (List.mem_of_getElem? (l := tables_1_1) (i := 102) rfl), rfl⟩
theorem wn_1_119 : (Jvm.Cond.fieldLinkNest "FencedLedger" (153 : Nat) "FencedLedger$Channel" "rows" "[LFencedLedger$Message;" "FencedLedger") ∈ fw_nest := List.mem_filter.mpr ⟨fw_in1 (List.mem_of_getElem? (l := tables_1_1) (i := 119) rfl), rfl⟩
theorem wn_1_122 : (Jvm.Cond.fieldLinkNest "FencedLedger" (150 : Nat) "FencedLedger$Channel" "count" "I" "FencedLedger") ∈ fw_nest := List.mem_filter.mpr ⟨fw_in1 (List.mem_of_getElem? (l := tables_1_1) (i := 122) rfl), rfl⟩
theorem wn_1_132 : (Jvm.Cond.methodLinkNest "FencedLedger" (39 : Nat) ({ cls := "FencedLedger$Writer", name := "<init>", desc := "()V" } : Jvm.MethodName) "FencedLedger") ∈ fw_nest := List.mem_filter.mpr ⟨fw_in1 (List.mem_of_getElem? (l := tables_1_1) (i := 132) rfl), rfl⟩
theorem wn_1_137 : (Jvm.Cond.fieldLinkNest "FencedLedger" (201 : Nat) "FencedLedger$Writer" "values" "[I" "FencedLedger") ∈ fw_nest := List.mem_filter.mpr ⟨fw_in1 (List.mem_of_getElem? (l := tables_1_1) (i := 137) rfl), rfl⟩
theorem wn_1_139 : (Jvm.Cond.fieldLinkNest "FencedLedger" (202 : Nat) "FencedLedger$Writer" "answered" "[I" "FencedLedger") ∈ fw_nest := List.mem_filter.mpr ⟨fw_in1 (List.mem_of_getElem? (l := tables_1_1) (i := 139) rfl), rfl⟩
theorem wn_1_141 : (Jvm.Cond.fieldLinkNest "FencedLedger" (62 : Nat) "FencedLedger$Writer" "state" "I" "FencedLedger") ∈ fw_nest := List.mem_filter.mpr ⟨fw_in1 (List.mem_of_getElem? (l := tables_1_1) (i := 141) rfl), rfl⟩
theorem wn_1_143 : (Jvm.Cond.fieldLinkNest "FencedLedger" (101 : Nat) "FencedLedger$Writer" "entryCount" "I" "FencedLedger") ∈ fw_nest := List.mem_filter.mpr ⟨fw_in1 (List.mem_of_getElem? (l := tables_1_1) (i := 143) rfl), rfl⟩
theorem wn_1_145 : (Jvm.Cond.fieldLinkNest "FencedLedger" (92 : Nat) "FencedLedger$Writer" "lac" "I" "FencedLedger") ∈ fw_nest := List.mem_filter.mpr ⟨fw_in1 (List.mem_of_getElem? (l := tables_1_1) (i := 145) rfl), rfl⟩
theorem wn_1_160 : (Jvm.Cond.methodLinkNest "FencedLedger" (50 : Nat) ({ cls := "FencedLedger$Recoverer", name := "<init>", desc := "(I)V" } : Jvm.MethodName) "FencedLedger") ∈ fw_nest := List.mem_filter.mpr ⟨fw_in1 (List.mem_of_getElem? (l := tables_1_1) (i := 160) rfl), rfl⟩
theorem wn_1_165 : (Jvm.Cond.fieldLinkNest "FencedLedger" (215 : Nat) "FencedLedger$Recoverer" "client" "I" "FencedLedger") ∈ fw_nest := List.mem_filter.mpr ⟨fw_in1 (List.mem_of_getElem? (l := tables_1_1) (i := 165) rfl), rfl⟩
theorem wn_1_167 : (Jvm.Cond.fieldLinkNest "FencedLedger" (107 : Nat) "FencedLedger$Recoverer" "state" "I" "FencedLedger") ∈ fw_nest := List.mem_filter.mpr ⟨fw_in1 (List.mem_of_getElem? (l := tables_1_1) (i := 167) rfl), rfl⟩
theorem wn_1_169 : (Jvm.Cond.fieldLinkNest "FencedLedger" (216 : Nat) "FencedLedger$Recoverer" "term" "I" "FencedLedger") ∈ fw_nest := List.mem_filter.mpr ⟨fw_in1 (List.mem_of_getElem? (l := tables_1_1) (i := 169) rfl), rfl⟩
theorem wn_1_171 : (Jvm.Cond.fieldLinkNest "FencedLedger" (222 : Nat) "FencedLedger$Recoverer" "entry" "I" "FencedLedger") ∈ fw_nest := List.mem_filter.mpr ⟨fw_in1 (List.mem_of_getElem? (l := tables_1_1) (i := 171) rfl), rfl⟩
theorem wn_1_173 : (Jvm.Cond.fieldLinkNest "FencedLedger" (213 : Nat) "FencedLedger$Recoverer" "answered" "I" "FencedLedger") ∈ fw_nest := List.mem_filter.mpr ⟨fw_in1 (List.mem_of_getElem? (l := tables_1_1) (i := 173) rfl), rfl⟩
theorem wn_1_175 : (Jvm.Cond.fieldLinkNest "FencedLedger" (273 : Nat) "FencedLedger$Recoverer" "highestMark" "I" "FencedLedger") ∈ fw_nest := List.mem_filter.mpr ⟨fw_in1 (List.mem_of_getElem? (l := tables_1_1) (i := 175) rfl), rfl⟩
theorem wn_1_177 : (Jvm.Cond.fieldLinkNest "FencedLedger" (225 : Nat) "FencedLedger$Recoverer" "value" "I" "FencedLedger") ∈ fw_nest := List.mem_filter.mpr ⟨fw_in1 (List.mem_of_getElem? (l := tables_1_1) (i := 177) rfl), rfl⟩
theorem wn_1_228 : (Jvm.Cond.methodLinkNest "FencedLedger" (88 : Nat) ({ cls := "FencedLedger$Writer", name := "knows", desc := "(I)Z" } : Jvm.MethodName) "FencedLedger") ∈ fw_nest := List.mem_filter.mpr ⟨fw_in1 (List.mem_of_getElem? (l := tables_1_1) (i := 228) rfl), rfl⟩
theorem wn_1_232 : (Jvm.Cond.methodLinkNest "FencedLedger" (95 : Nat) ({ cls := "FencedLedger$Writer", name := "countAnswers", desc := "(I)I" } : Jvm.MethodName) "FencedLedger") ∈ fw_nest := List.mem_filter.mpr ⟨fw_in1 (List.mem_of_getElem? (l := tables_1_1) (i := 232) rfl), rfl⟩
theorem wn_2_14 : (Jvm.Cond.methodLinkNest "FencedLedger" (209 : Nat) ({ cls := "FencedLedger$Channel", name := "send", desc := "(IIIIIII)V" } : Jvm.MethodName) "FencedLedger") ∈ fw_nest := List.mem_filter.mpr ⟨fw_in2 (List.mem_of_getElem? (l := tables_1_2) (i := 14) rfl), rfl⟩
theorem wn_2_45 : (Jvm.Cond.methodLinkNest "FencedLedger" (108 : Nat) ({ cls := "FencedLedger$Recoverer", name := "beginFencing", desc := "(I)V" } : Jvm.MethodName) "FencedLedger") ∈ fw_nest := List.mem_filter.mpr ⟨fw_in2 (List.mem_of_getElem? (l := tables_1_2) (i := 45) rfl), rfl⟩
theorem wn_2_61 : (Jvm.Cond.methodLinkNest "FencedLedger" (115 : Nat) ({ cls := "FencedLedger$Recoverer", name := "isBusy", desc := "()Z" } : Jvm.MethodName) "FencedLedger") ∈ fw_nest := List.mem_filter.mpr ⟨fw_in2 (List.mem_of_getElem? (l := tables_1_2) (i := 61) rfl), rfl⟩
theorem wn_2_73 : (Jvm.Cond.methodLinkNest "FencedLedger" (118 : Nat) ({ cls := "FencedLedger$Recoverer", name := "detail", desc := "(I)I" } : Jvm.MethodName) "FencedLedger") ∈ fw_nest := List.mem_filter.mpr ⟨fw_in2 (List.mem_of_getElem? (l := tables_1_2) (i := 73) rfl), rfl⟩
theorem wn_2_86 : (Jvm.Cond.methodLinkNest "FencedLedger" (121 : Nat) ({ cls := "FencedLedger$Channel", name := "holds", desc := "(I)Z" } : Jvm.MethodName) "FencedLedger") ∈ fw_nest := List.mem_filter.mpr ⟨fw_in2 (List.mem_of_getElem? (l := tables_1_2) (i := 86) rfl), rfl⟩
theorem wn_2_90 : (Jvm.Cond.methodLinkNest "FencedLedger" (124 : Nat) ({ cls := "FencedLedger$Channel", name := "takeOut", desc := "(I)LFencedLedger$Message;" } : Jvm.MethodName) "FencedLedger") ∈ fw_nest := List.mem_filter.mpr ⟨fw_in2 (List.mem_of_getElem? (l := tables_1_2) (i := 90) rfl), rfl⟩
theorem wn_2_94 : (Jvm.Cond.methodLinkNest "FencedLedger" (128 : Nat) ({ cls := "FencedLedger$Message", name := "isToStore", desc := "()Z" } : Jvm.MethodName) "FencedLedger") ∈ fw_nest := List.mem_filter.mpr ⟨fw_in2 (List.mem_of_getElem? (l := tables_1_2) (i := 94) rfl), rfl⟩
theorem wn_2_110 : (Jvm.Cond.methodLinkNest "FencedLedger" (248 : Nat) ({ cls := "FencedLedger$Store", name := "keep", desc := "(III)V" } : Jvm.MethodName) "FencedLedger") ∈ fw_nest := List.mem_filter.mpr ⟨fw_in2 (List.mem_of_getElem? (l := tables_1_2) (i := 110) rfl), rfl⟩
theorem wn_2_115 : (Jvm.Cond.methodLinkNest "FencedLedger" (140 : Nat) ({ cls := "FencedLedger$Writer", name := "hear", desc := "(LFencedLedger$Message;I)V" } : Jvm.MethodName) "FencedLedger") ∈ fw_nest := List.mem_filter.mpr ⟨fw_in2 (List.mem_of_getElem? (l := tables_1_2) (i := 115) rfl), rfl⟩
theorem wn_2_132 : (Jvm.Cond.methodLinkNest "FencedLedger" (270 : Nat) ({ cls := "FencedLedger$Recoverer", name := "noteAnswer", desc := "(I)V" } : Jvm.MethodName) "FencedLedger") ∈ fw_nest := List.mem_filter.mpr ⟨fw_in2 (List.mem_of_getElem? (l := tables_1_2) (i := 132) rfl), rfl⟩
theorem wn_2_152 : (Jvm.Cond.methodLinkNest "FencedLedger" (293 : Nat) ({ cls := "FencedLedger$Recoverer", name := "beginReading", desc := "(I)V" } : Jvm.MethodName) "FencedLedger") ∈ fw_nest := List.mem_filter.mpr ⟨fw_in2 (List.mem_of_getElem? (l := tables_1_2) (i := 152) rfl), rfl⟩
theorem wn_2_156 : (Jvm.Cond.methodLinkNest "FencedLedger" (257 : Nat) ({ cls := "FencedLedger$Recoverer", name := "awaits", desc := "(II)Z" } : Jvm.MethodName) "FencedLedger") ∈ fw_nest := List.mem_filter.mpr ⟨fw_in2 (List.mem_of_getElem? (l := tables_1_2) (i := 156) rfl), rfl⟩
theorem wn_2_160 : (Jvm.Cond.methodLinkNest "FencedLedger" (261 : Nat) ({ cls := "FencedLedger$Recoverer", name := "beginWritingBack", desc := "(I)V" } : Jvm.MethodName) "FencedLedger") ∈ fw_nest := List.mem_filter.mpr ⟨fw_in2 (List.mem_of_getElem? (l := tables_1_2) (i := 160) rfl), rfl⟩
theorem wn_2_168 : (Jvm.Cond.methodLinkNest "FencedLedger" (283 : Nat) ({ cls := "FencedLedger$Recoverer", name := "countAnswered", desc := "()I" } : Jvm.MethodName) "FencedLedger") ∈ fw_nest := List.mem_filter.mpr ⟨fw_in2 (List.mem_of_getElem? (l := tables_1_2) (i := 168) rfl), rfl⟩
theorem wn_2_185 : (Jvm.Cond.methodLinkNest "FencedLedger" (157 : Nat) ({ cls := "FencedLedger$Message", name := "detail", desc := "(I)I" } : Jvm.MethodName) "FencedLedger") ∈ fw_nest := List.mem_filter.mpr ⟨fw_in2 (List.mem_of_getElem? (l := tables_1_2) (i := 185) rfl), rfl⟩
theorem wn_2_201 : (Jvm.Cond.methodLinkNest "FencedLedger" (165 : Nat) ({ cls := "FencedLedger$Store", name := "detail", desc := "(I)I" } : Jvm.MethodName) "FencedLedger") ∈ fw_nest := List.mem_filter.mpr ⟨fw_in2 (List.mem_of_getElem? (l := tables_1_2) (i := 201) rfl), rfl⟩
theorem wn_2_230 : (Jvm.Cond.castable "java/lang/IllegalStateException" "java/lang/IllegalStateException") ∈ fw_nest := List.mem_filter.mpr ⟨fw_in2 (List.mem_of_getElem? (l := tables_1_2) (i := 230) rfl), rfl⟩
theorem wn_3_56 : (Jvm.Cond.methodLinkNest "FencedLedger" (72 : Nat) ({ cls := "FencedLedger$Writer", name := "isFull", desc := "()Z" } : Jvm.MethodName) "FencedLedger") ∈ fw_nest := List.mem_filter.mpr ⟨fw_in3 (List.mem_of_getElem? (l := tables_1_3) (i := 56) rfl), rfl⟩
theorem wn_3_62 : (Jvm.Cond.castable "java/lang/IndexOutOfBoundsException" "java/lang/IndexOutOfBoundsException") ∈ fw_nest := List.mem_filter.mpr ⟨fw_in3 (List.mem_of_getElem? (l := tables_1_3) (i := 62) rfl), rfl⟩
theorem wn_3_76 : (Jvm.Cond.methodLinkNest "FencedLedger" (81 : Nat) ({ cls := "FencedLedger$Writer", name := "append", desc := "(I)I" } : Jvm.MethodName) "FencedLedger") ∈ fw_nest := List.mem_filter.mpr ⟨fw_in3 (List.mem_of_getElem? (l := tables_1_3) (i := 76) rfl), rfl⟩
theorem wn_3_96 : (Jvm.Cond.castable "java/lang/UnsupportedOperationException" "java/lang/UnsupportedOperationException") ∈ fw_nest := List.mem_filter.mpr ⟨fw_in3 (List.mem_of_getElem? (l := tables_1_3) (i := 96) rfl), rfl⟩
theorem wsel_CH_holds : Cond.selects R_CH y_CH_holds y_CH_holds ∈ fw_ws := List.mem_filter.mpr ⟨List.mem_append_left _ (List.mem_map.mpr ⟨(y_CH_holds, 3), by decide +kernel, rfl⟩), rfl⟩
theorem wsel_CH_send : Cond.selects R_CH y_CH_send y_CH_send ∈ fw_ws := List.mem_filter.mpr ⟨List.mem_append_left _ (List.mem_map.mpr ⟨(y_CH_send, 3), by decide +kernel, rfl⟩), rfl⟩
theorem wsel_CH_takeOut : Cond.selects R_CH y_CH_takeOut y_CH_takeOut ∈ fw_ws := List.mem_filter.mpr ⟨List.mem_append_left _ (List.mem_map.mpr ⟨(y_CH_takeOut, 3), by decide +kernel, rfl⟩), rfl⟩
theorem wsel_FL_countSilent : Cond.selects R_FL y_FL_countSilent y_FL_countSilent ∈ fw_ws := List.mem_filter.mpr ⟨List.mem_append_left _ (List.mem_map.mpr ⟨(y_FL_countSilent, 10), by decide +kernel, rfl⟩), rfl⟩
theorem wsel_FL_finish : Cond.selects R_FL y_FL_finish y_FL_finish ∈ fw_ws := List.mem_filter.mpr ⟨List.mem_append_left _ (List.mem_map.mpr ⟨(y_FL_finish, 10), by decide +kernel, rfl⟩), rfl⟩
theorem wsel_FL_firstUpWith : Cond.selects R_FL y_FL_firstUpWith y_FL_firstUpWith ∈ fw_ws := List.mem_filter.mpr ⟨List.mem_append_left _ (List.mem_map.mpr ⟨(y_FL_firstUpWith, 10), by decide +kernel, rfl⟩), rfl⟩
theorem wsel_FL_hearAdded : Cond.selects R_FL y_FL_hearAdded y_FL_hearAdded ∈ fw_ws := List.mem_filter.mpr ⟨List.mem_append_left _ (List.mem_map.mpr ⟨(y_FL_hearAdded, 10), by decide +kernel, rfl⟩), rfl⟩
theorem wsel_FL_hearFenced : Cond.selects R_FL y_FL_hearFenced y_FL_hearFenced ∈ fw_ws := List.mem_filter.mpr ⟨List.mem_append_left _ (List.mem_map.mpr ⟨(y_FL_hearFenced, 10), by decide +kernel, rfl⟩), rfl⟩
theorem wsel_FL_hearMissing : Cond.selects R_FL y_FL_hearMissing y_FL_hearMissing ∈ fw_ws := List.mem_filter.mpr ⟨List.mem_append_left _ (List.mem_map.mpr ⟨(y_FL_hearMissing, 10), by decide +kernel, rfl⟩), rfl⟩
theorem wsel_FL_isStore : Cond.selects R_FL y_FL_isStore y_FL_isStore ∈ fw_ws := List.mem_filter.mpr ⟨List.mem_append_left _ (List.mem_map.mpr ⟨(y_FL_isStore, 10), by decide +kernel, rfl⟩), rfl⟩
theorem wsel_FL_isWriterFencedOut : Cond.selects R_FL y_FL_isWriterFencedOut y_FL_isWriterFencedOut ∈ fw_ws := List.mem_filter.mpr ⟨List.mem_append_left _ (List.mem_map.mpr ⟨(y_FL_isWriterFencedOut, 10), by decide +kernel, rfl⟩), rfl⟩
theorem wsel_FL_reachRecoverer : Cond.selects R_FL y_FL_reachRecoverer y_FL_reachRecoverer ∈ fw_ws := List.mem_filter.mpr ⟨List.mem_append_left _ (List.mem_map.mpr ⟨(y_FL_reachRecoverer, 10), by decide +kernel, rfl⟩), rfl⟩
theorem wsel_FL_reachStore : Cond.selects R_FL y_FL_reachStore y_FL_reachStore ∈ fw_ws := List.mem_filter.mpr ⟨List.mem_append_left _ (List.mem_map.mpr ⟨(y_FL_reachStore, 10), by decide +kernel, rfl⟩), rfl⟩
theorem wsel_FL_reachStoreWithAdd : Cond.selects R_FL y_FL_reachStoreWithAdd y_FL_reachStoreWithAdd ∈ fw_ws := List.mem_filter.mpr ⟨List.mem_append_left _ (List.mem_map.mpr ⟨(y_FL_reachStoreWithAdd, 10), by decide +kernel, rfl⟩), rfl⟩
theorem wsel_FL_readOn : Cond.selects R_FL y_FL_readOn y_FL_readOn ∈ fw_ws := List.mem_filter.mpr ⟨List.mem_append_left _ (List.mem_map.mpr ⟨(y_FL_readOn, 10), by decide +kernel, rfl⟩), rfl⟩
theorem wsel_FL_sendAnswer : Cond.selects R_FL y_FL_sendAnswer y_FL_sendAnswer ∈ fw_ws := List.mem_filter.mpr ⟨List.mem_append_left _ (List.mem_map.mpr ⟨(y_FL_sendAnswer, 10), by decide +kernel, rfl⟩), rfl⟩
theorem wsel_FL_sendFences : Cond.selects R_FL y_FL_sendFences y_FL_sendFences ∈ fw_ws := List.mem_filter.mpr ⟨List.mem_append_left _ (List.mem_map.mpr ⟨(y_FL_sendFences, 10), by decide +kernel, rfl⟩), rfl⟩
theorem wsel_FL_sendStep : Cond.selects R_FL y_FL_sendStep y_FL_sendStep ∈ fw_ws := List.mem_filter.mpr ⟨List.mem_append_left _ (List.mem_map.mpr ⟨(y_FL_sendStep, 10), by decide +kernel, rfl⟩), rfl⟩
theorem wsel_FL_sendToSet : Cond.selects R_FL y_FL_sendToSet y_FL_sendToSet ∈ fw_ws := List.mem_filter.mpr ⟨List.mem_append_left _ (List.mem_map.mpr ⟨(y_FL_sendToSet, 10), by decide +kernel, rfl⟩), rfl⟩
theorem wsel_FL_sendWritersAdd : Cond.selects R_FL y_FL_sendWritersAdd y_FL_sendWritersAdd ∈ fw_ws := List.mem_filter.mpr ⟨List.mem_append_left _ (List.mem_map.mpr ⟨(y_FL_sendWritersAdd, 10), by decide +kernel, rfl⟩), rfl⟩
theorem wsel_FL_setMember : Cond.selects R_FL y_FL_setMember y_FL_setMember ∈ fw_ws := List.mem_filter.mpr ⟨List.mem_append_left _ (List.mem_map.mpr ⟨(y_FL_setMember, 10), by decide +kernel, rfl⟩), rfl⟩
theorem wsel_FL_shutLedger : Cond.selects R_FL y_FL_shutLedger y_FL_shutLedger ∈ fw_ws := List.mem_filter.mpr ⟨List.mem_append_left _ (List.mem_map.mpr ⟨(y_FL_shutLedger, 10), by decide +kernel, rfl⟩), rfl⟩
theorem wsel_MD_ackCount : Cond.selects R_MD y_MD_ackCount y_MD_ackCount ∈ fw_ws := List.mem_filter.mpr ⟨List.mem_append_left _ (List.mem_map.mpr ⟨(y_MD_ackCount, 25), by decide +kernel, rfl⟩), rfl⟩
theorem wsel_MD_answerCount : Cond.selects R_MD y_MD_answerCount y_MD_answerCount ∈ fw_ws := List.mem_filter.mpr ⟨List.mem_append_left _ (List.mem_map.mpr ⟨(y_MD_answerCount, 25), by decide +kernel, rfl⟩), rfl⟩
theorem wsel_MD_ask : Cond.selects R_MD y_MD_ask y_MD_ask ∈ fw_ws := List.mem_filter.mpr ⟨List.mem_append_left _ (List.mem_map.mpr ⟨(y_MD_ask, 25), by decide +kernel, rfl⟩), rfl⟩
theorem wsel_MD_busy : Cond.selects R_MD y_MD_busy y_MD_busy ∈ fw_ws := List.mem_filter.mpr ⟨List.mem_append_left _ (List.mem_map.mpr ⟨(y_MD_busy, 25), by decide +kernel, rfl⟩), rfl⟩
theorem wsel_MD_covers : Cond.selects R_MD y_MD_covers y_MD_covers ∈ fw_ws := List.mem_filter.mpr ⟨List.mem_append_left _ (List.mem_map.mpr ⟨(y_MD_covers, 25), by decide +kernel, rfl⟩), rfl⟩
theorem wsel_MD_fence : Cond.selects R_MD y_MD_fence y_MD_fence ∈ fw_ws := List.mem_filter.mpr ⟨List.mem_append_left _ (List.mem_map.mpr ⟨(y_MD_fence, 25), by decide +kernel, rfl⟩), rfl⟩
theorem wsel_MD_finish : Cond.selects R_MD y_MD_finish y_MD_finish ∈ fw_ws := List.mem_filter.mpr ⟨List.mem_append_left _ (List.mem_map.mpr ⟨(y_MD_finish, 25), by decide +kernel, rfl⟩), rfl⟩
theorem wsel_MD_forget : Cond.selects R_MD y_MD_forget y_MD_forget ∈ fw_ws := List.mem_filter.mpr ⟨List.mem_append_left _ (List.mem_map.mpr ⟨(y_MD_forget, 25), by decide +kernel, rfl⟩), rfl⟩
theorem wsel_MD_hears : Cond.selects R_MD y_MD_hears y_MD_hears ∈ fw_ws := List.mem_filter.mpr ⟨List.mem_append_left _ (List.mem_map.mpr ⟨(y_MD_hears, 25), by decide +kernel, rfl⟩), rfl⟩
theorem wsel_MD_isMessage : Cond.selects R_MD y_MD_isMessage y_MD_isMessage ∈ fw_ws := List.mem_filter.mpr ⟨List.mem_append_left _ (List.mem_map.mpr ⟨(y_MD_isMessage, 25), by decide +kernel, rfl⟩), rfl⟩
theorem wsel_MD_isStore : Cond.selects R_MD y_MD_isStore y_MD_isStore ∈ fw_ws := List.mem_filter.mpr ⟨List.mem_append_left _ (List.mem_map.mpr ⟨(y_MD_isStore, 25), by decide +kernel, rfl⟩), rfl⟩
theorem wsel_MD_keep : Cond.selects R_MD y_MD_keep y_MD_keep ∈ fw_ws := List.mem_filter.mpr ⟨List.mem_append_left _ (List.mem_map.mpr ⟨(y_MD_keep, 25), by decide +kernel, rfl⟩), rfl⟩
theorem wsel_MD_learns : Cond.selects R_MD y_MD_learns y_MD_learns ∈ fw_ws := List.mem_filter.mpr ⟨List.mem_append_left _ (List.mem_map.mpr ⟨(y_MD_learns, 25), by decide +kernel, rfl⟩), rfl⟩
theorem wsel_MD_readOn : Cond.selects R_MD y_MD_readOn y_MD_readOn ∈ fw_ws := List.mem_filter.mpr ⟨List.mem_append_left _ (List.mem_map.mpr ⟨(y_MD_readOn, 25), by decide +kernel, rfl⟩), rfl⟩
theorem wsel_MD_remove : Cond.selects R_MD y_MD_remove y_MD_remove ∈ fw_ws := List.mem_filter.mpr ⟨List.mem_append_left _ (List.mem_map.mpr ⟨(y_MD_remove, 25), by decide +kernel, rfl⟩), rfl⟩
theorem wsel_MD_send : Cond.selects R_MD y_MD_send y_MD_send ∈ fw_ws := List.mem_filter.mpr ⟨List.mem_append_left _ (List.mem_map.mpr ⟨(y_MD_send, 25), by decide +kernel, rfl⟩), rfl⟩
theorem wsel_MD_spread : Cond.selects R_MD y_MD_spread y_MD_spread ∈ fw_ws := List.mem_filter.mpr ⟨List.mem_append_left _ (List.mem_map.mpr ⟨(y_MD_spread, 25), by decide +kernel, rfl⟩), rfl⟩
theorem wsel_MS_detail : Cond.selects R_MS y_MS_detail y_MS_detail ∈ fw_ws := List.mem_filter.mpr ⟨List.mem_append_left _ (List.mem_map.mpr ⟨(y_MS_detail, 7), by decide +kernel, rfl⟩), rfl⟩
theorem wsel_MS_isToStore : Cond.selects R_MS y_MS_isToStore y_MS_isToStore ∈ fw_ws := List.mem_filter.mpr ⟨List.mem_append_left _ (List.mem_map.mpr ⟨(y_MS_isToStore, 7), by decide +kernel, rfl⟩), rfl⟩
theorem wsel_RC_awaits : Cond.selects R_RC y_RC_awaits y_RC_awaits ∈ fw_ws := List.mem_filter.mpr ⟨List.mem_append_left _ (List.mem_map.mpr ⟨(y_RC_awaits, 7), by decide +kernel, rfl⟩), rfl⟩
theorem wsel_RC_beginFencing : Cond.selects R_RC y_RC_beginFencing y_RC_beginFencing ∈ fw_ws := List.mem_filter.mpr ⟨List.mem_append_left _ (List.mem_map.mpr ⟨(y_RC_beginFencing, 7), by decide +kernel, rfl⟩), rfl⟩
theorem wsel_RC_beginReading : Cond.selects R_RC y_RC_beginReading y_RC_beginReading ∈ fw_ws := List.mem_filter.mpr ⟨List.mem_append_left _ (List.mem_map.mpr ⟨(y_RC_beginReading, 7), by decide +kernel, rfl⟩), rfl⟩
theorem wsel_RC_beginWritingBack : Cond.selects R_RC y_RC_beginWritingBack y_RC_beginWritingBack ∈ fw_ws := List.mem_filter.mpr ⟨List.mem_append_left _ (List.mem_map.mpr ⟨(y_RC_beginWritingBack, 7), by decide +kernel, rfl⟩), rfl⟩
theorem wsel_RC_countAnswered : Cond.selects R_RC y_RC_countAnswered y_RC_countAnswered ∈ fw_ws := List.mem_filter.mpr ⟨List.mem_append_left _ (List.mem_map.mpr ⟨(y_RC_countAnswered, 7), by decide +kernel, rfl⟩), rfl⟩
theorem wsel_RC_detail : Cond.selects R_RC y_RC_detail y_RC_detail ∈ fw_ws := List.mem_filter.mpr ⟨List.mem_append_left _ (List.mem_map.mpr ⟨(y_RC_detail, 7), by decide +kernel, rfl⟩), rfl⟩
theorem wsel_RC_isBusy : Cond.selects R_RC y_RC_isBusy y_RC_isBusy ∈ fw_ws := List.mem_filter.mpr ⟨List.mem_append_left _ (List.mem_map.mpr ⟨(y_RC_isBusy, 7), by decide +kernel, rfl⟩), rfl⟩
theorem wsel_RC_noteAnswer : Cond.selects R_RC y_RC_noteAnswer y_RC_noteAnswer ∈ fw_ws := List.mem_filter.mpr ⟨List.mem_append_left _ (List.mem_map.mpr ⟨(y_RC_noteAnswer, 7), by decide +kernel, rfl⟩), rfl⟩
theorem wsel_ST_detail : Cond.selects R_ST y_ST_detail y_ST_detail ∈ fw_ws := List.mem_filter.mpr ⟨List.mem_append_left _ (List.mem_map.mpr ⟨(y_ST_detail, 6), by decide +kernel, rfl⟩), rfl⟩
theorem wsel_ST_keep : Cond.selects R_ST y_ST_keep y_ST_keep ∈ fw_ws := List.mem_filter.mpr ⟨List.mem_append_left _ (List.mem_map.mpr ⟨(y_ST_keep, 6), by decide +kernel, rfl⟩), rfl⟩
theorem wsel_WR_advanceLac : Cond.selects R_WR y_WR_advanceLac y_WR_advanceLac ∈ fw_ws := List.mem_filter.mpr ⟨List.mem_append_left _ (List.mem_map.mpr ⟨(y_WR_advanceLac, 5), by decide +kernel, rfl⟩), rfl⟩
theorem wsel_WR_append : Cond.selects R_WR y_WR_append y_WR_append ∈ fw_ws := List.mem_filter.mpr ⟨List.mem_append_left _ (List.mem_map.mpr ⟨(y_WR_append, 5), by decide +kernel, rfl⟩), rfl⟩
theorem wsel_WR_countAnswers : Cond.selects R_WR y_WR_countAnswers y_WR_countAnswers ∈ fw_ws := List.mem_filter.mpr ⟨List.mem_append_left _ (List.mem_map.mpr ⟨(y_WR_countAnswers, 5), by decide +kernel, rfl⟩), rfl⟩
theorem wsel_WR_hear : Cond.selects R_WR y_WR_hear y_WR_hear ∈ fw_ws := List.mem_filter.mpr ⟨List.mem_append_left _ (List.mem_map.mpr ⟨(y_WR_hear, 5), by decide +kernel, rfl⟩), rfl⟩
theorem wsel_WR_isFull : Cond.selects R_WR y_WR_isFull y_WR_isFull ∈ fw_ws := List.mem_filter.mpr ⟨List.mem_append_left _ (List.mem_map.mpr ⟨(y_WR_isFull, 5), by decide +kernel, rfl⟩), rfl⟩
theorem wsel_WR_knows : Cond.selects R_WR y_WR_knows y_WR_knows ∈ fw_ws := List.mem_filter.mpr ⟨List.mem_append_left _ (List.mem_map.mpr ⟨(y_WR_knows, 5), by decide +kernel, rfl⟩), rfl⟩
theorem iw_CH {a : Cond} : ∀ w ∈ u_ws R_CH T_CH 3, w ∈ a :: fw_ws := by
  intro w hw
  refine List.mem_cons_of_mem _ ?_
  obtain ⟨k, hk, rfl⟩ := List.mem_map.mp hw
  rw [List.mem_range] at hk
  match k, hk with
  | 0, _ => exact wq_1_123
  | 1, _ => exact wq_1_125
  | 2, _ => exact wq_1_127
  | k + 3, hk => exact absurd hk (by omega)
theorem iw_MS {a : Cond} : ∀ w ∈ u_ws R_MS T_MS 7, w ∈ a :: fw_ws := by
  intro w hw
  refine List.mem_cons_of_mem _ ?_
  obtain ⟨k, hk, rfl⟩ := List.mem_map.mp hw
  rw [List.mem_range] at hk
  match k, hk with
  | 0, _ => exact wq_1_103
  | 1, _ => exact wq_1_105
  | 2, _ => exact wq_1_107
  | 3, _ => exact wq_1_109
  | 4, _ => exact wq_1_111
  | 5, _ => exact wq_1_113
  | 6, _ => exact wq_1_115
  | k + 7, hk => exact absurd hk (by omega)
theorem iw_RC {a : Cond} : ∀ w ∈ u_ws R_RC T_RC 7, w ∈ a :: fw_ws := by
  intro w hw
  refine List.mem_cons_of_mem _ ?_
  obtain ⟨k, hk, rfl⟩ := List.mem_map.mp hw
  rw [List.mem_range] at hk
  match k, hk with
  | 0, _ => exact wq_1_178
  | 1, _ => exact wq_1_180
  | 2, _ => exact wq_1_182
  | 3, _ => exact wq_1_184
  | 4, _ => exact wq_1_186
  | 5, _ => exact wq_1_188
  | 6, _ => exact wq_1_190
  | k + 7, hk => exact absurd hk (by omega)
theorem iw_ST {a : Cond} : ∀ w ∈ u_ws R_ST T_ST 6, w ∈ a :: fw_ws := by
  intro w hw
  refine List.mem_cons_of_mem _ ?_
  obtain ⟨k, hk, rfl⟩ := List.mem_map.mp hw
  rw [List.mem_range] at hk
  match k, hk with
  | 0, _ => exact wq_1_51
  | 1, _ => exact wq_1_53
  | 2, _ => exact wq_1_55
  | 3, _ => exact wq_1_57
  | 4, _ => exact wq_1_59
  | 5, _ => exact wq_1_61
  | k + 6, hk => exact absurd hk (by omega)
theorem iw_WR {a : Cond} : ∀ w ∈ u_ws R_WR T_WR 5, w ∈ a :: fw_ws := by
  intro w hw
  refine List.mem_cons_of_mem _ ?_
  obtain ⟨k, hk, rfl⟩ := List.mem_map.mp hw
  rw [List.mem_range] at hk
  match k, hk with
  | 0, _ => exact wq_1_146
  | 1, _ => exact wq_1_148
  | 2, _ => exact wq_1_150
  | 3, _ => exact wq_1_152
  | 4, _ => exact wq_1_154
  | k + 5, hk => exact absurd hk (by omega)
theorem iw_FL {a : Cond} : ∀ w ∈ u_ws R_FL T_FL 10, w ∈ a :: fw_ws := by
  intro w hw
  refine List.mem_cons_of_mem _ ?_
  obtain ⟨k, hk, rfl⟩ := List.mem_map.mp hw
  rw [List.mem_range] at hk
  match k, hk with
  | 0, _ => exact wq_1_203
  | 1, _ => exact wq_1_205
  | 2, _ => exact wq_1_207
  | 3, _ => exact wq_1_209
  | 4, _ => exact wq_1_211
  | 5, _ => exact wq_1_213
  | 6, _ => exact wq_1_215
  | 7, _ => exact wq_1_217
  | 8, _ => exact wq_1_219
  | 9, _ => exact wq_1_221
  | k + 10, hk => exact absurd hk (by omega)
theorem iw_MD {a : Cond} : ∀ w ∈ u_ws R_MD T_MD 25, w ∈ a :: fw_ws := by
  intro w hw
  refine List.mem_cons_of_mem _ ?_
  obtain ⟨k, hk, rfl⟩ := List.mem_map.mp hw
  rw [List.mem_range] at hk
  match k, hk with
  | 0, _ => exact wq_3_141
  | 1, _ => exact wq_3_143
  | 2, _ => exact wq_3_145
  | 3, _ => exact wq_3_147
  | 4, _ => exact wq_3_149
  | 5, _ => exact wq_3_151
  | 6, _ => exact wq_3_153
  | 7, _ => exact wq_3_155
  | 8, _ => exact wq_3_157
  | 9, _ => exact wq_3_159
  | 10, _ => exact wq_3_161
  | 11, _ => exact wq_3_163
  | 12, _ => exact wq_3_165
  | 13, _ => exact wq_3_167
  | 14, _ => exact wq_3_169
  | 15, _ => exact wq_3_171
  | 16, _ => exact wq_3_173
  | 17, _ => exact wq_3_175
  | 18, _ => exact wq_3_177
  | 19, _ => exact wq_3_179
  | 20, _ => exact wq_3_181
  | 21, _ => exact wq_3_183
  | 22, _ => exact wq_3_185
  | 23, _ => exact wq_3_187
  | 24, _ => exact wq_3_189
  | k + 25, hk => exact absurd hk (by omega)
