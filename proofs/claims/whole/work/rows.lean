section
-- ===== PART A: goes FIRST, ahead of the names: the tables' words, and 'selects' of the private methods out of them =====
/-- a private method of a class that the tables say can be made, by its rows of tables_1 -/
def lw_okq (q : MethodName × Nat) : Prop := (q.1.cls ≠ "java/lang/invoke/MethodHandle" ∧ q.1.cls ≠ "java/lang/invoke/VarHandle") ∧ Cond.instantiable q.1.cls q.2 ∈ tables_1 ∧ Cond.privateMethod q.1 ∈ tables_1 ∧ Cond.instanceMethod q.1 ∈ tables_1
theorem lw_p0 : lw_okq (⟨"FencedLedger$Writer", "knows", "(I)Z"⟩, 5) := ⟨⟨by decide +kernel, by decide +kernel⟩, List.mem_of_getElem? (i := 131) (by decide +kernel), List.mem_of_getElem? (i := 229) (by decide +kernel), List.mem_of_getElem? (i := 230) (by decide +kernel)⟩
theorem lw_p1 : lw_okq (⟨"FencedLedger$Writer", "countAnswers", "(I)I"⟩, 5) := ⟨⟨by decide +kernel, by decide +kernel⟩, List.mem_of_getElem? (i := 131) (by decide +kernel), List.mem_of_getElem? (i := 233) (by decide +kernel), List.mem_of_getElem? (i := 234) (by decide +kernel)⟩
theorem lw_p2 : lw_okq (⟨"FencedLedger", "sendWritersAdd", "(I)I"⟩, 10) := ⟨⟨by decide +kernel, by decide +kernel⟩, List.mem_of_getElem? (i := 17) (by decide +kernel), List.mem_of_getElem? (i := 243) (by decide +kernel), List.mem_of_getElem? (i := 244) (by decide +kernel)⟩
theorem lw_p3 : lw_okq (⟨"FencedLedger", "sendToSet", "(IIIIIII)I"⟩, 10) := ⟨⟨by decide +kernel, by decide +kernel⟩, List.mem_of_getElem? (i := 17) (by decide +kernel), List.mem_of_getElem? (i := 247) (by decide +kernel), List.mem_of_getElem? (i := 248) (by decide +kernel)⟩
theorem lw_p4 : lw_okq (⟨"FencedLedger", "setMember", "(II)I"⟩, 10) := ⟨⟨by decide +kernel, by decide +kernel⟩, List.mem_of_getElem? (i := 17) (by decide +kernel), List.mem_of_getElem? (i := 251) (by decide +kernel), List.mem_of_getElem? (i := 252) (by decide +kernel)⟩
theorem lw_p5 : lw_okq (⟨"FencedLedger$Channel", "send", "(IIIIIII)V"⟩, 3) := ⟨⟨by decide +kernel, by decide +kernel⟩, List.mem_of_getElem? (i := 67) (by decide +kernel), List.mem_of_getElem? (i := 255) (by decide +kernel), List.mem_of_getElem? (i := 256) (by decide +kernel)⟩
theorem lw_p6 : lw_okq (⟨"FencedLedger", "shutLedger", "(I)V"⟩, 10) := ⟨⟨by decide +kernel, by decide +kernel⟩, List.mem_of_getElem? (i := 17) (by decide +kernel), List.mem_of_getElem? (i := 263) (by decide +kernel), List.mem_of_getElem? (i := 264) (by decide +kernel)⟩
theorem lw_p7 : lw_okq (⟨"FencedLedger$Recoverer", "beginFencing", "(I)V"⟩, 7) := ⟨⟨by decide +kernel, by decide +kernel⟩, List.mem_of_getElem? (i := 159) (by decide +kernel), List.mem_of_getElem? (i := 286) (by decide +kernel), List.mem_of_getElem? (i := 287) (by decide +kernel)⟩
theorem lw_p8 : lw_okq (⟨"FencedLedger", "sendStep", "(LFencedLedger$Recoverer;)I"⟩, 10) := ⟨⟨by decide +kernel, by decide +kernel⟩, List.mem_of_getElem? (i := 17) (by decide +kernel), List.mem_of_getElem? (i := 290) (by decide +kernel), List.mem_of_getElem? (i := 291) (by decide +kernel)⟩
theorem lw_p9 : lw_okq (⟨"FencedLedger", "sendFences", "(LFencedLedger$Recoverer;)I"⟩, 10) := ⟨⟨by decide +kernel, by decide +kernel⟩, List.mem_of_getElem? (i := 17) (by decide +kernel), List.mem_of_getElem? (i := 294) (by decide +kernel), List.mem_of_getElem? (i := 295) (by decide +kernel)⟩
theorem lw_p10 : lw_okq (⟨"FencedLedger$Recoverer", "isBusy", "()Z"⟩, 7) := ⟨⟨by decide +kernel, by decide +kernel⟩, List.mem_of_getElem? (i := 159) (by decide +kernel), List.mem_of_getElem? (i := 302) (by decide +kernel), List.mem_of_getElem? (i := 303) (by decide +kernel)⟩
theorem lw_p11 : lw_okq (⟨"FencedLedger$Recoverer", "detail", "(I)I"⟩, 7) := ⟨⟨by decide +kernel, by decide +kernel⟩, List.mem_of_getElem? (i := 159) (by decide +kernel), List.mem_of_getElem? (i := 314) (by decide +kernel), List.mem_of_getElem? (i := 315) (by decide +kernel)⟩
theorem lw_p12 : lw_okq (⟨"FencedLedger$Recoverer", "countAnswered", "()I"⟩, 7) := ⟨⟨by decide +kernel, by decide +kernel⟩, List.mem_of_getElem? (i := 159) (by decide +kernel), List.mem_of_getElem? (i := 318) (by decide +kernel), List.mem_of_getElem? (i := 319) (by decide +kernel)⟩
theorem lw_p13 : lw_okq (⟨"FencedLedger$Channel", "holds", "(I)Z"⟩, 3) := ⟨⟨by decide +kernel, by decide +kernel⟩, List.mem_of_getElem? (i := 67) (by decide +kernel), List.mem_of_getElem? (i := 327) (by decide +kernel), List.mem_of_getElem? (i := 328) (by decide +kernel)⟩
theorem lw_p14 : lw_okq (⟨"FencedLedger$Channel", "takeOut", "(I)LFencedLedger$Message;"⟩, 3) := ⟨⟨by decide +kernel, by decide +kernel⟩, List.mem_of_getElem? (i := 67) (by decide +kernel), List.mem_of_getElem? (i := 331) (by decide +kernel), List.mem_of_getElem? (i := 332) (by decide +kernel)⟩
theorem lw_p15 : lw_okq (⟨"FencedLedger$Message", "isToStore", "()Z"⟩, 7) := ⟨⟨by decide +kernel, by decide +kernel⟩, List.mem_of_getElem? (i := 74) (by decide +kernel), List.mem_of_getElem? (i := 335) (by decide +kernel), List.mem_of_getElem? (i := 336) (by decide +kernel)⟩
def lw_privs_1 : List (MethodName × Nat) := [(⟨"FencedLedger$Writer", "knows", "(I)Z"⟩, 5), (⟨"FencedLedger$Writer", "countAnswers", "(I)I"⟩, 5), (⟨"FencedLedger", "sendWritersAdd", "(I)I"⟩, 10), (⟨"FencedLedger", "sendToSet", "(IIIIIII)I"⟩, 10), (⟨"FencedLedger", "setMember", "(II)I"⟩, 10), (⟨"FencedLedger$Channel", "send", "(IIIIIII)V"⟩, 3), (⟨"FencedLedger", "shutLedger", "(I)V"⟩, 10), (⟨"FencedLedger$Recoverer", "beginFencing", "(I)V"⟩, 7), (⟨"FencedLedger", "sendStep", "(LFencedLedger$Recoverer;)I"⟩, 10), (⟨"FencedLedger", "sendFences", "(LFencedLedger$Recoverer;)I"⟩, 10), (⟨"FencedLedger$Recoverer", "isBusy", "()Z"⟩, 7), (⟨"FencedLedger$Recoverer", "detail", "(I)I"⟩, 7), (⟨"FencedLedger$Recoverer", "countAnswered", "()I"⟩, 7), (⟨"FencedLedger$Channel", "holds", "(I)Z"⟩, 3), (⟨"FencedLedger$Channel", "takeOut", "(I)LFencedLedger$Message;"⟩, 3), (⟨"FencedLedger$Message", "isToStore", "()Z"⟩, 7)]
theorem lw_r1 : ∀ q ∈ lw_privs_1, lw_okq q := List.forall_mem_cons.mpr ⟨lw_p0, List.forall_mem_cons.mpr ⟨lw_p1, List.forall_mem_cons.mpr ⟨lw_p2, List.forall_mem_cons.mpr ⟨lw_p3, List.forall_mem_cons.mpr ⟨lw_p4, List.forall_mem_cons.mpr ⟨lw_p5, List.forall_mem_cons.mpr ⟨lw_p6, List.forall_mem_cons.mpr ⟨lw_p7, List.forall_mem_cons.mpr ⟨lw_p8, List.forall_mem_cons.mpr ⟨lw_p9, List.forall_mem_cons.mpr ⟨lw_p10, List.forall_mem_cons.mpr ⟨lw_p11, List.forall_mem_cons.mpr ⟨lw_p12, List.forall_mem_cons.mpr ⟨lw_p13, List.forall_mem_cons.mpr ⟨lw_p14, List.forall_mem_cons.mpr ⟨lw_p15, fun _ h => absurd h List.not_mem_nil⟩⟩⟩⟩⟩⟩⟩⟩⟩⟩⟩⟩⟩⟩⟩⟩
theorem lw_p16 : lw_okq (⟨"FencedLedger", "reachStore", "(LFencedLedger$Message;)V"⟩, 10) := ⟨⟨by decide +kernel, by decide +kernel⟩, List.mem_of_getElem? (i := 17) (by decide +kernel), List.mem_of_getElem? (i := 339) (by decide +kernel), List.mem_of_getElem? (i := 340) (by decide +kernel)⟩
theorem lw_p17 : lw_okq (⟨"FencedLedger", "reachStoreWithAdd", "(LFencedLedger$Store;LFencedLedger$Message;)V"⟩, 10) := ⟨⟨by decide +kernel, by decide +kernel⟩, List.mem_of_getElem? (i := 17) (by decide +kernel), List.mem_of_getElem? (i := 343) (by decide +kernel), List.mem_of_getElem? (i := 344) (by decide +kernel)⟩
theorem lw_p18 : lw_okq (⟨"FencedLedger", "sendAnswer", "(LFencedLedger$Message;II)V"⟩, 10) := ⟨⟨by decide +kernel, by decide +kernel⟩, List.mem_of_getElem? (i := 17) (by decide +kernel), List.mem_of_getElem? (i := 347) (by decide +kernel), List.mem_of_getElem? (i := 348) (by decide +kernel)⟩
theorem lw_p19 : lw_okq (⟨"FencedLedger$Store", "keep", "(III)V"⟩, 6) := ⟨⟨by decide +kernel, by decide +kernel⟩, List.mem_of_getElem? (i := 35) (by decide +kernel), List.mem_of_getElem? (i := 351) (by decide +kernel), List.mem_of_getElem? (i := 352) (by decide +kernel)⟩
theorem lw_p20 : lw_okq (⟨"FencedLedger$Writer", "hear", "(LFencedLedger$Message;I)V"⟩, 5) := ⟨⟨by decide +kernel, by decide +kernel⟩, List.mem_of_getElem? (i := 131) (by decide +kernel), List.mem_of_getElem? (i := 356) (by decide +kernel), List.mem_of_getElem? (i := 357) (by decide +kernel)⟩
theorem lw_p21 : lw_okq (⟨"FencedLedger$Writer", "advanceLac", "(I)V"⟩, 5) := ⟨⟨by decide +kernel, by decide +kernel⟩, List.mem_of_getElem? (i := 131) (by decide +kernel), List.mem_of_getElem? (i := 360) (by decide +kernel), List.mem_of_getElem? (i := 361) (by decide +kernel)⟩
theorem lw_p22 : lw_okq (⟨"FencedLedger", "reachRecoverer", "(LFencedLedger$Message;)V"⟩, 10) := ⟨⟨by decide +kernel, by decide +kernel⟩, List.mem_of_getElem? (i := 17) (by decide +kernel), List.mem_of_getElem? (i := 365) (by decide +kernel), List.mem_of_getElem? (i := 366) (by decide +kernel)⟩
theorem lw_p23 : lw_okq (⟨"FencedLedger", "hearFenced", "(LFencedLedger$Recoverer;LFencedLedger$Message;)V"⟩, 10) := ⟨⟨by decide +kernel, by decide +kernel⟩, List.mem_of_getElem? (i := 17) (by decide +kernel), List.mem_of_getElem? (i := 369) (by decide +kernel), List.mem_of_getElem? (i := 370) (by decide +kernel)⟩
theorem lw_p24 : lw_okq (⟨"FencedLedger$Recoverer", "noteAnswer", "(I)V"⟩, 7) := ⟨⟨by decide +kernel, by decide +kernel⟩, List.mem_of_getElem? (i := 159) (by decide +kernel), List.mem_of_getElem? (i := 373) (by decide +kernel), List.mem_of_getElem? (i := 374) (by decide +kernel)⟩
theorem lw_p25 : lw_okq (⟨"FencedLedger", "isWriterFencedOut", "(I)Z"⟩, 10) := ⟨⟨by decide +kernel, by decide +kernel⟩, List.mem_of_getElem? (i := 17) (by decide +kernel), List.mem_of_getElem? (i := 377) (by decide +kernel), List.mem_of_getElem? (i := 378) (by decide +kernel)⟩
theorem lw_p26 : lw_okq (⟨"FencedLedger", "countSilent", "(II)I"⟩, 10) := ⟨⟨by decide +kernel, by decide +kernel⟩, List.mem_of_getElem? (i := 17) (by decide +kernel), List.mem_of_getElem? (i := 381) (by decide +kernel), List.mem_of_getElem? (i := 382) (by decide +kernel)⟩
theorem lw_p27 : lw_okq (⟨"FencedLedger", "readOn", "(LFencedLedger$Recoverer;I)V"⟩, 10) := ⟨⟨by decide +kernel, by decide +kernel⟩, List.mem_of_getElem? (i := 17) (by decide +kernel), List.mem_of_getElem? (i := 385) (by decide +kernel), List.mem_of_getElem? (i := 386) (by decide +kernel)⟩
theorem lw_p28 : lw_okq (⟨"FencedLedger", "finish", "(LFencedLedger$Recoverer;I)V"⟩, 10) := ⟨⟨by decide +kernel, by decide +kernel⟩, List.mem_of_getElem? (i := 17) (by decide +kernel), List.mem_of_getElem? (i := 389) (by decide +kernel), List.mem_of_getElem? (i := 390) (by decide +kernel)⟩
theorem lw_p29 : lw_okq (⟨"FencedLedger$Recoverer", "beginReading", "(I)V"⟩, 7) := ⟨⟨by decide +kernel, by decide +kernel⟩, List.mem_of_getElem? (i := 159) (by decide +kernel), List.mem_of_getElem? (i := 393) (by decide +kernel), List.mem_of_getElem? (i := 394) (by decide +kernel)⟩
theorem lw_p30 : lw_okq (⟨"FencedLedger$Recoverer", "awaits", "(II)Z"⟩, 7) := ⟨⟨by decide +kernel, by decide +kernel⟩, List.mem_of_getElem? (i := 159) (by decide +kernel), List.mem_of_getElem? (i := 397) (by decide +kernel), List.mem_of_getElem? (i := 398) (by decide +kernel)⟩
theorem lw_p31 : lw_okq (⟨"FencedLedger$Recoverer", "beginWritingBack", "(I)V"⟩, 7) := ⟨⟨by decide +kernel, by decide +kernel⟩, List.mem_of_getElem? (i := 159) (by decide +kernel), List.mem_of_getElem? (i := 401) (by decide +kernel), List.mem_of_getElem? (i := 402) (by decide +kernel)⟩
def lw_privs_2 : List (MethodName × Nat) := [(⟨"FencedLedger", "reachStore", "(LFencedLedger$Message;)V"⟩, 10), (⟨"FencedLedger", "reachStoreWithAdd", "(LFencedLedger$Store;LFencedLedger$Message;)V"⟩, 10), (⟨"FencedLedger", "sendAnswer", "(LFencedLedger$Message;II)V"⟩, 10), (⟨"FencedLedger$Store", "keep", "(III)V"⟩, 6), (⟨"FencedLedger$Writer", "hear", "(LFencedLedger$Message;I)V"⟩, 5), (⟨"FencedLedger$Writer", "advanceLac", "(I)V"⟩, 5), (⟨"FencedLedger", "reachRecoverer", "(LFencedLedger$Message;)V"⟩, 10), (⟨"FencedLedger", "hearFenced", "(LFencedLedger$Recoverer;LFencedLedger$Message;)V"⟩, 10), (⟨"FencedLedger$Recoverer", "noteAnswer", "(I)V"⟩, 7), (⟨"FencedLedger", "isWriterFencedOut", "(I)Z"⟩, 10), (⟨"FencedLedger", "countSilent", "(II)I"⟩, 10), (⟨"FencedLedger", "readOn", "(LFencedLedger$Recoverer;I)V"⟩, 10), (⟨"FencedLedger", "finish", "(LFencedLedger$Recoverer;I)V"⟩, 10), (⟨"FencedLedger$Recoverer", "beginReading", "(I)V"⟩, 7), (⟨"FencedLedger$Recoverer", "awaits", "(II)Z"⟩, 7), (⟨"FencedLedger$Recoverer", "beginWritingBack", "(I)V"⟩, 7)]
theorem lw_r2 : ∀ q ∈ lw_privs_2, lw_okq q := List.forall_mem_cons.mpr ⟨lw_p16, List.forall_mem_cons.mpr ⟨lw_p17, List.forall_mem_cons.mpr ⟨lw_p18, List.forall_mem_cons.mpr ⟨lw_p19, List.forall_mem_cons.mpr ⟨lw_p20, List.forall_mem_cons.mpr ⟨lw_p21, List.forall_mem_cons.mpr ⟨lw_p22, List.forall_mem_cons.mpr ⟨lw_p23, List.forall_mem_cons.mpr ⟨lw_p24, List.forall_mem_cons.mpr ⟨lw_p25, List.forall_mem_cons.mpr ⟨lw_p26, List.forall_mem_cons.mpr ⟨lw_p27, List.forall_mem_cons.mpr ⟨lw_p28, List.forall_mem_cons.mpr ⟨lw_p29, List.forall_mem_cons.mpr ⟨lw_p30, List.forall_mem_cons.mpr ⟨lw_p31, fun _ h => absurd h List.not_mem_nil⟩⟩⟩⟩⟩⟩⟩⟩⟩⟩⟩⟩⟩⟩⟩⟩
theorem lw_p32 : lw_okq (⟨"FencedLedger", "hearMissing", "(LFencedLedger$Recoverer;LFencedLedger$Message;)V"⟩, 10) := ⟨⟨by decide +kernel, by decide +kernel⟩, List.mem_of_getElem? (i := 17) (by decide +kernel), List.mem_of_getElem? (i := 405) (by decide +kernel), List.mem_of_getElem? (i := 406) (by decide +kernel)⟩
theorem lw_p33 : lw_okq (⟨"FencedLedger", "hearAdded", "(LFencedLedger$Recoverer;LFencedLedger$Message;)V"⟩, 10) := ⟨⟨by decide +kernel, by decide +kernel⟩, List.mem_of_getElem? (i := 17) (by decide +kernel), List.mem_of_getElem? (i := 410) (by decide +kernel), List.mem_of_getElem? (i := 411) (by decide +kernel)⟩
theorem lw_p34 : lw_okq (⟨"FencedLedger$Message", "detail", "(I)I"⟩, 7) := ⟨⟨by decide +kernel, by decide +kernel⟩, List.mem_of_getElem? (i := 74) (by decide +kernel), List.mem_of_getElem? (i := 426) (by decide +kernel), List.mem_of_getElem? (i := 427) (by decide +kernel)⟩
theorem lw_p35 : lw_okq (⟨"FencedLedger", "isStore", "(I)Z"⟩, 10) := ⟨⟨by decide +kernel, by decide +kernel⟩, List.mem_of_getElem? (i := 17) (by decide +kernel), List.mem_of_getElem? (i := 434) (by decide +kernel), List.mem_of_getElem? (i := 435) (by decide +kernel)⟩
theorem lw_p36 : lw_okq (⟨"FencedLedger$Store", "detail", "(I)I"⟩, 6) := ⟨⟨by decide +kernel, by decide +kernel⟩, List.mem_of_getElem? (i := 35) (by decide +kernel), List.mem_of_getElem? (i := 442) (by decide +kernel), List.mem_of_getElem? (i := 443) (by decide +kernel)⟩
theorem lw_p37 : lw_okq (⟨"java/lang/Throwable", "fillInStackTrace", "(I)Ljava/lang/Throwable;"⟩, 6) := ⟨⟨by decide +kernel, by decide +kernel⟩, List.mem_of_getElem? (i := 507) (by decide +kernel), List.mem_of_getElem? (i := 505) (by decide +kernel), List.mem_of_getElem? (i := 506) (by decide +kernel)⟩
theorem lw_p38 : lw_okq (⟨"FencedLedger$Writer", "isFull", "()Z"⟩, 5) := ⟨⟨by decide +kernel, by decide +kernel⟩, List.mem_of_getElem? (i := 131) (by decide +kernel), List.mem_of_getElem? (i := 537) (by decide +kernel), List.mem_of_getElem? (i := 538) (by decide +kernel)⟩
theorem lw_p39 : lw_okq (⟨"FencedLedger$Writer", "append", "(I)I"⟩, 5) := ⟨⟨by decide +kernel, by decide +kernel⟩, List.mem_of_getElem? (i := 131) (by decide +kernel), List.mem_of_getElem? (i := 557) (by decide +kernel), List.mem_of_getElem? (i := 558) (by decide +kernel)⟩
theorem lw_p40 : lw_okq (⟨"FencedLedger", "firstUpWith", "(I)I"⟩, 10) := ⟨⟨by decide +kernel, by decide +kernel⟩, List.mem_of_getElem? (i := 17) (by decide +kernel), List.mem_of_getElem? (i := 571) (by decide +kernel), List.mem_of_getElem? (i := 572) (by decide +kernel)⟩
theorem lw_p41 : lw_okq (⟨"FencedLedgerModel", "isMessage", "(I)Z"⟩, 25) := ⟨⟨by decide +kernel, by decide +kernel⟩, List.mem_of_getElem? (i := 591) (by decide +kernel), List.mem_of_getElem? (i := 681) (by decide +kernel), List.mem_of_getElem? (i := 682) (by decide +kernel)⟩
theorem lw_p42 : lw_okq (⟨"FencedLedgerModel", "remove", "(I)V"⟩, 25) := ⟨⟨by decide +kernel, by decide +kernel⟩, List.mem_of_getElem? (i := 591) (by decide +kernel), List.mem_of_getElem? (i := 685) (by decide +kernel), List.mem_of_getElem? (i := 686) (by decide +kernel)⟩
theorem lw_p43 : lw_okq (⟨"FencedLedgerModel", "keep", "(IIIIII)V"⟩, 25) := ⟨⟨by decide +kernel, by decide +kernel⟩, List.mem_of_getElem? (i := 591) (by decide +kernel), List.mem_of_getElem? (i := 689) (by decide +kernel), List.mem_of_getElem? (i := 690) (by decide +kernel)⟩
theorem lw_p44 : lw_okq (⟨"FencedLedgerModel", "send", "(IIIIIII)V"⟩, 25) := ⟨⟨by decide +kernel, by decide +kernel⟩, List.mem_of_getElem? (i := 591) (by decide +kernel), List.mem_of_getElem? (i := 693) (by decide +kernel), List.mem_of_getElem? (i := 694) (by decide +kernel)⟩
theorem lw_p45 : lw_okq (⟨"FencedLedgerModel", "fence", "(IIIII)V"⟩, 25) := ⟨⟨by decide +kernel, by decide +kernel⟩, List.mem_of_getElem? (i := 591) (by decide +kernel), List.mem_of_getElem? (i := 697) (by decide +kernel), List.mem_of_getElem? (i := 698) (by decide +kernel)⟩
theorem lw_p46 : lw_okq (⟨"FencedLedgerModel", "hears", "(III)V"⟩, 25) := ⟨⟨by decide +kernel, by decide +kernel⟩, List.mem_of_getElem? (i := 591) (by decide +kernel), List.mem_of_getElem? (i := 701) (by decide +kernel), List.mem_of_getElem? (i := 702) (by decide +kernel)⟩
theorem lw_p47 : lw_okq (⟨"FencedLedgerModel", "ackCount", "(I)I"⟩, 25) := ⟨⟨by decide +kernel, by decide +kernel⟩, List.mem_of_getElem? (i := 591) (by decide +kernel), List.mem_of_getElem? (i := 705) (by decide +kernel), List.mem_of_getElem? (i := 706) (by decide +kernel)⟩
def lw_privs_3 : List (MethodName × Nat) := [(⟨"FencedLedger", "hearMissing", "(LFencedLedger$Recoverer;LFencedLedger$Message;)V"⟩, 10), (⟨"FencedLedger", "hearAdded", "(LFencedLedger$Recoverer;LFencedLedger$Message;)V"⟩, 10), (⟨"FencedLedger$Message", "detail", "(I)I"⟩, 7), (⟨"FencedLedger", "isStore", "(I)Z"⟩, 10), (⟨"FencedLedger$Store", "detail", "(I)I"⟩, 6), (⟨"java/lang/Throwable", "fillInStackTrace", "(I)Ljava/lang/Throwable;"⟩, 6), (⟨"FencedLedger$Writer", "isFull", "()Z"⟩, 5), (⟨"FencedLedger$Writer", "append", "(I)I"⟩, 5), (⟨"FencedLedger", "firstUpWith", "(I)I"⟩, 10), (⟨"FencedLedgerModel", "isMessage", "(I)Z"⟩, 25), (⟨"FencedLedgerModel", "remove", "(I)V"⟩, 25), (⟨"FencedLedgerModel", "keep", "(IIIIII)V"⟩, 25), (⟨"FencedLedgerModel", "send", "(IIIIIII)V"⟩, 25), (⟨"FencedLedgerModel", "fence", "(IIIII)V"⟩, 25), (⟨"FencedLedgerModel", "hears", "(III)V"⟩, 25), (⟨"FencedLedgerModel", "ackCount", "(I)I"⟩, 25)]
theorem lw_r3 : ∀ q ∈ lw_privs_3, lw_okq q := List.forall_mem_cons.mpr ⟨lw_p32, List.forall_mem_cons.mpr ⟨lw_p33, List.forall_mem_cons.mpr ⟨lw_p34, List.forall_mem_cons.mpr ⟨lw_p35, List.forall_mem_cons.mpr ⟨lw_p36, List.forall_mem_cons.mpr ⟨lw_p37, List.forall_mem_cons.mpr ⟨lw_p38, List.forall_mem_cons.mpr ⟨lw_p39, List.forall_mem_cons.mpr ⟨lw_p40, List.forall_mem_cons.mpr ⟨lw_p41, List.forall_mem_cons.mpr ⟨lw_p42, List.forall_mem_cons.mpr ⟨lw_p43, List.forall_mem_cons.mpr ⟨lw_p44, List.forall_mem_cons.mpr ⟨lw_p45, List.forall_mem_cons.mpr ⟨lw_p46, List.forall_mem_cons.mpr ⟨lw_p47, fun _ h => absurd h List.not_mem_nil⟩⟩⟩⟩⟩⟩⟩⟩⟩⟩⟩⟩⟩⟩⟩⟩
theorem lw_p48 : lw_okq (⟨"FencedLedgerModel", "learns", "(IIIII)V"⟩, 25) := ⟨⟨by decide +kernel, by decide +kernel⟩, List.mem_of_getElem? (i := 591) (by decide +kernel), List.mem_of_getElem? (i := 709) (by decide +kernel), List.mem_of_getElem? (i := 710) (by decide +kernel)⟩
theorem lw_p49 : lw_okq (⟨"FencedLedgerModel", "covers", "(I)Z"⟩, 25) := ⟨⟨by decide +kernel, by decide +kernel⟩, List.mem_of_getElem? (i := 591) (by decide +kernel), List.mem_of_getElem? (i := 713) (by decide +kernel), List.mem_of_getElem? (i := 714) (by decide +kernel)⟩
theorem lw_p50 : lw_okq (⟨"FencedLedgerModel", "readOn", "(II)V"⟩, 25) := ⟨⟨by decide +kernel, by decide +kernel⟩, List.mem_of_getElem? (i := 591) (by decide +kernel), List.mem_of_getElem? (i := 717) (by decide +kernel), List.mem_of_getElem? (i := 718) (by decide +kernel)⟩
theorem lw_p51 : lw_okq (⟨"FencedLedgerModel", "finish", "(II)V"⟩, 25) := ⟨⟨by decide +kernel, by decide +kernel⟩, List.mem_of_getElem? (i := 591) (by decide +kernel), List.mem_of_getElem? (i := 721) (by decide +kernel), List.mem_of_getElem? (i := 722) (by decide +kernel)⟩
theorem lw_p52 : lw_okq (⟨"FencedLedgerModel", "forget", "(I)V"⟩, 25) := ⟨⟨by decide +kernel, by decide +kernel⟩, List.mem_of_getElem? (i := 591) (by decide +kernel), List.mem_of_getElem? (i := 725) (by decide +kernel), List.mem_of_getElem? (i := 726) (by decide +kernel)⟩
theorem lw_p53 : lw_okq (⟨"FencedLedgerModel", "ask", "(I)I"⟩, 25) := ⟨⟨by decide +kernel, by decide +kernel⟩, List.mem_of_getElem? (i := 591) (by decide +kernel), List.mem_of_getElem? (i := 729) (by decide +kernel), List.mem_of_getElem? (i := 730) (by decide +kernel)⟩
theorem lw_p54 : lw_okq (⟨"FencedLedgerModel", "answerCount", "(I)I"⟩, 25) := ⟨⟨by decide +kernel, by decide +kernel⟩, List.mem_of_getElem? (i := 591) (by decide +kernel), List.mem_of_getElem? (i := 733) (by decide +kernel), List.mem_of_getElem? (i := 734) (by decide +kernel)⟩
theorem lw_p55 : lw_okq (⟨"FencedLedgerModel", "spread", "(I)I"⟩, 25) := ⟨⟨by decide +kernel, by decide +kernel⟩, List.mem_of_getElem? (i := 591) (by decide +kernel), List.mem_of_getElem? (i := 753) (by decide +kernel), List.mem_of_getElem? (i := 754) (by decide +kernel)⟩
theorem lw_p56 : lw_okq (⟨"FencedLedgerModel", "busy", "(I)Z"⟩, 25) := ⟨⟨by decide +kernel, by decide +kernel⟩, List.mem_of_getElem? (i := 591) (by decide +kernel), List.mem_of_getElem? (i := 780) (by decide +kernel), List.mem_of_getElem? (i := 781) (by decide +kernel)⟩
theorem lw_p57 : lw_okq (⟨"FencedLedgerModel", "isStore", "(I)Z"⟩, 25) := ⟨⟨by decide +kernel, by decide +kernel⟩, List.mem_of_getElem? (i := 591) (by decide +kernel), List.mem_of_getElem? (i := 792) (by decide +kernel), List.mem_of_getElem? (i := 793) (by decide +kernel)⟩
def lw_privs_4 : List (MethodName × Nat) := [(⟨"FencedLedgerModel", "learns", "(IIIII)V"⟩, 25), (⟨"FencedLedgerModel", "covers", "(I)Z"⟩, 25), (⟨"FencedLedgerModel", "readOn", "(II)V"⟩, 25), (⟨"FencedLedgerModel", "finish", "(II)V"⟩, 25), (⟨"FencedLedgerModel", "forget", "(I)V"⟩, 25), (⟨"FencedLedgerModel", "ask", "(I)I"⟩, 25), (⟨"FencedLedgerModel", "answerCount", "(I)I"⟩, 25), (⟨"FencedLedgerModel", "spread", "(I)I"⟩, 25), (⟨"FencedLedgerModel", "busy", "(I)Z"⟩, 25), (⟨"FencedLedgerModel", "isStore", "(I)Z"⟩, 25)]
theorem lw_r4 : ∀ q ∈ lw_privs_4, lw_okq q := List.forall_mem_cons.mpr ⟨lw_p48, List.forall_mem_cons.mpr ⟨lw_p49, List.forall_mem_cons.mpr ⟨lw_p50, List.forall_mem_cons.mpr ⟨lw_p51, List.forall_mem_cons.mpr ⟨lw_p52, List.forall_mem_cons.mpr ⟨lw_p53, List.forall_mem_cons.mpr ⟨lw_p54, List.forall_mem_cons.mpr ⟨lw_p55, List.forall_mem_cons.mpr ⟨lw_p56, List.forall_mem_cons.mpr ⟨lw_p57, fun _ h => absurd h List.not_mem_nil⟩⟩⟩⟩⟩⟩⟩⟩⟩⟩
def lw_privs : List (MethodName × Nat) := lw_privs_1 ++ (lw_privs_2 ++ (lw_privs_3 ++ (lw_privs_4)))
def lw_tbl : List Cond := k2_sels lw_privs ++ tables_1
theorem lw_privs_ok : ∀ q ∈ lw_privs, lw_okq q := by
  show ∀ q ∈ lw_privs_1 ++ (lw_privs_2 ++ (lw_privs_3 ++ (lw_privs_4))), lw_okq q
  exact List.forall_mem_append.mpr ⟨lw_r1, List.forall_mem_append.mpr ⟨lw_r2, List.forall_mem_append.mpr ⟨lw_r3, lw_r4⟩⟩⟩

def R_CH : String := "FencedLedger$Channel"
def T_CH : u_T := fun k => match k with
  | 0 => ("FencedLedger$Channel", "rows", "[LFencedLedger$Message;", true)
  | 1 => ("FencedLedger$Channel", "taken", "LFencedLedger$Message;", false)
  | _ => ("FencedLedger$Channel", "count", "I", false)
def ty_CH : Nat → FieldType := fun k => match k with
  | 0 => .array (.object "FencedLedger$Message")
  | 1 => .object "FencedLedger$Message"
  | _ => .int
theorem nn_CH : ∀ a, a < 3 → ∀ b, b < 3 → a ≠ b → (T_CH a).2.1 ≠ (T_CH b).2.1 := by decide +kernel
theorem tyok_CH : ∀ k, k < 3 → parseFieldDescriptor (T_CH k).2.2.1 = some (ty_CH k) := by decide +kernel
def R_MS : String := "FencedLedger$Message"
def T_MS : u_T := fun k => match k with
  | 0 => ("FencedLedger$Message", "kind", "I", false)
  | 1 => ("FencedLedger$Message", "client", "I", false)
  | 2 => ("FencedLedger$Message", "store", "I", false)
  | 3 => ("FencedLedger$Message", "entry", "I", false)
  | 4 => ("FencedLedger$Message", "value", "I", false)
  | 5 => ("FencedLedger$Message", "term", "I", false)
  | _ => ("FencedLedger$Message", "mark", "I", false)
def ty_MS : Nat → FieldType := fun k => match k with
  | 0 => .int
  | 1 => .int
  | 2 => .int
  | 3 => .int
  | 4 => .int
  | 5 => .int
  | _ => .int
theorem nn_MS : ∀ a, a < 7 → ∀ b, b < 7 → a ≠ b → (T_MS a).2.1 ≠ (T_MS b).2.1 := by decide +kernel
theorem tyok_MS : ∀ k, k < 7 → parseFieldDescriptor (T_MS k).2.2.1 = some (ty_MS k) := by decide +kernel
def R_RC : String := "FencedLedger$Recoverer"
def T_RC : u_T := fun k => match k with
  | 0 => ("FencedLedger$Recoverer", "client", "I", true)
  | 1 => ("FencedLedger$Recoverer", "state", "I", false)
  | 2 => ("FencedLedger$Recoverer", "term", "I", false)
  | 3 => ("FencedLedger$Recoverer", "entry", "I", false)
  | 4 => ("FencedLedger$Recoverer", "answered", "I", false)
  | 5 => ("FencedLedger$Recoverer", "highestMark", "I", false)
  | _ => ("FencedLedger$Recoverer", "value", "I", false)
def ty_RC : Nat → FieldType := fun k => match k with
  | 0 => .int
  | 1 => .int
  | 2 => .int
  | 3 => .int
  | 4 => .int
  | 5 => .int
  | _ => .int
theorem nn_RC : ∀ a, a < 7 → ∀ b, b < 7 → a ≠ b → (T_RC a).2.1 ≠ (T_RC b).2.1 := by decide +kernel
theorem tyok_RC : ∀ k, k < 7 → parseFieldDescriptor (T_RC k).2.2.1 = some (ty_RC k) := by decide +kernel
def R_ST : String := "FencedLedger$Store"
def T_ST : u_T := fun k => match k with
  | 0 => ("FencedLedger$Store", "kept", "[Z", true)
  | 1 => ("FencedLedger$Store", "values", "[I", true)
  | 2 => ("FencedLedger$Store", "up", "Z", false)
  | 3 => ("FencedLedger$Store", "fenced", "Z", false)
  | 4 => ("FencedLedger$Store", "mark", "I", false)
  | _ => ("FencedLedger$Store", "keptCount", "I", false)
def ty_ST : Nat → FieldType := fun k => match k with
  | 0 => .array .boolean
  | 1 => .array .int
  | 2 => .boolean
  | 3 => .boolean
  | 4 => .int
  | _ => .int
theorem nn_ST : ∀ a, a < 6 → ∀ b, b < 6 → a ≠ b → (T_ST a).2.1 ≠ (T_ST b).2.1 := by decide +kernel
theorem tyok_ST : ∀ k, k < 6 → parseFieldDescriptor (T_ST k).2.2.1 = some (ty_ST k) := by decide +kernel
def R_WR : String := "FencedLedger$Writer"
def T_WR : u_T := fun k => match k with
  | 0 => ("FencedLedger$Writer", "values", "[I", true)
  | 1 => ("FencedLedger$Writer", "answered", "[I", true)
  | 2 => ("FencedLedger$Writer", "state", "I", false)
  | 3 => ("FencedLedger$Writer", "entryCount", "I", false)
  | _ => ("FencedLedger$Writer", "lac", "I", false)
def ty_WR : Nat → FieldType := fun k => match k with
  | 0 => .array .int
  | 1 => .array .int
  | 2 => .int
  | 3 => .int
  | _ => .int
theorem nn_WR : ∀ a, a < 5 → ∀ b, b < 5 → a ≠ b → (T_WR a).2.1 ≠ (T_WR b).2.1 := by decide +kernel
theorem tyok_WR : ∀ k, k < 5 → parseFieldDescriptor (T_WR k).2.2.1 = some (ty_WR k) := by decide +kernel
def R_FL : String := "FencedLedger"
def T_FL : u_T := fun k => match k with
  | 0 => ("FencedLedger", "storeCount", "I", true)
  | 1 => ("FencedLedger", "setSize", "I", true)
  | 2 => ("FencedLedger", "quorum", "I", true)
  | 3 => ("FencedLedger", "stores", "[LFencedLedger$Store;", true)
  | 4 => ("FencedLedger", "channel", "LFencedLedger$Channel;", true)
  | 5 => ("FencedLedger", "theWriter", "LFencedLedger$Writer;", true)
  | 6 => ("FencedLedger", "recoverers", "[LFencedLedger$Recoverer;", true)
  | 7 => ("FencedLedger", "ledgerState", "I", false)
  | 8 => ("FencedLedger", "ledgerVersion", "I", false)
  | _ => ("FencedLedger", "ledgerLast", "I", false)
def ty_FL : Nat → FieldType := fun k => match k with
  | 0 => .int
  | 1 => .int
  | 2 => .int
  | 3 => .array (.object "FencedLedger$Store")
  | 4 => .object "FencedLedger$Channel"
  | 5 => .object "FencedLedger$Writer"
  | 6 => .array (.object "FencedLedger$Recoverer")
  | 7 => .int
  | 8 => .int
  | _ => .int
theorem nn_FL : ∀ a, a < 10 → ∀ b, b < 10 → a ≠ b → (T_FL a).2.1 ≠ (T_FL b).2.1 := by decide +kernel
theorem tyok_FL : ∀ k, k < 10 → parseFieldDescriptor (T_FL k).2.2.1 = some (ty_FL k) := by decide +kernel
def R_MD : String := "FencedLedgerModel"
def T_MD : u_T := fun k => match k with
  | 0 => ("FencedLedgerModel", "thrown", "I", false)
  | 1 => ("FencedLedgerModel", "stores", "I", false)
  | 2 => ("FencedLedgerModel", "width", "I", false)
  | 3 => ("FencedLedgerModel", "quorum", "I", false)
  | 4 => ("FencedLedgerModel", "off", "[Z", false)
  | 5 => ("FencedLedgerModel", "fenced", "[Z", false)
  | 6 => ("FencedLedgerModel", "mark", "[I", false)
  | 7 => ("FencedLedgerModel", "held", "[Z", false)
  | 8 => ("FencedLedgerModel", "heldValue", "[I", false)
  | 9 => ("FencedLedgerModel", "stage", "I", false)
  | 10 => ("FencedLedgerModel", "version", "I", false)
  | 11 => ("FencedLedgerModel", "last", "I", false)
  | 12 => ("FencedLedgerModel", "flying", "I", false)
  | 13 => ("FencedLedgerModel", "fly", "[I", false)
  | 14 => ("FencedLedgerModel", "writing", "I", false)
  | 15 => ("FencedLedgerModel", "added", "I", false)
  | 16 => ("FencedLedgerModel", "lac", "I", false)
  | 17 => ("FencedLedgerModel", "written", "[I", false)
  | 18 => ("FencedLedgerModel", "acked", "[Z", false)
  | 19 => ("FencedLedgerModel", "mode", "[I", false)
  | 20 => ("FencedLedgerModel", "term", "[I", false)
  | 21 => ("FencedLedgerModel", "at", "[I", false)
  | 22 => ("FencedLedgerModel", "highest", "[I", false)
  | 23 => ("FencedLedgerModel", "back", "[I", false)
  | _ => ("FencedLedgerModel", "answered", "[Z", false)
def ty_MD : Nat → FieldType := fun k => match k with
  | 0 => .int
  | 1 => .int
  | 2 => .int
  | 3 => .int
  | 4 => .array .boolean
  | 5 => .array .boolean
  | 6 => .array .int
  | 7 => .array .boolean
  | 8 => .array .int
  | 9 => .int
  | 10 => .int
  | 11 => .int
  | 12 => .int
  | 13 => .array .int
  | 14 => .int
  | 15 => .int
  | 16 => .int
  | 17 => .array .int
  | 18 => .array .boolean
  | 19 => .array .int
  | 20 => .array .int
  | 21 => .array .int
  | 22 => .array .int
  | 23 => .array .int
  | _ => .array .boolean
theorem nn_MD : ∀ a, a < 25 → ∀ b, b < 25 → a ≠ b → (T_MD a).2.1 ≠ (T_MD b).2.1 := by decide +kernel
theorem tyok_MD : ∀ k, k < 25 → parseFieldDescriptor (T_MD k).2.2.1 = some (ty_MD k) := by decide +kernel
def R_JI : String := "java/lang/Integer"
def R_LW : String := "FencedLedgerLaw"
abbrev fw_cl : List vw_C := [(R_CH, T_CH, 3), (R_MS, T_MS, 7), (R_RC, T_RC, 7), (R_ST, T_ST, 6), (R_WR, T_WR, 5), (R_FL, T_FL, 10), (R_MD, T_MD, 25)]
def fw_nf (c : Nat) : Nat := match c with
  | 0 => 3
  | 1 => 7
  | 2 => 7
  | 3 => 6
  | 4 => 5
  | 5 => 10
  | 6 => 25
  | _ => 0
def fw_rf (c j : Nat) : Bool := match c, j with
  | 0, 0 => true
  | 0, 1 => true
  | 3, 0 => true
  | 3, 1 => true
  | 4, 0 => true
  | 4, 1 => true
  | 5, 3 => true
  | 5, 4 => true
  | 5, 5 => true
  | 5, 6 => true
  | 6, 4 => true
  | 6, 5 => true
  | 6, 6 => true
  | 6, 7 => true
  | 6, 8 => true
  | 6, 13 => true
  | 6, 17 => true
  | 6, 18 => true
  | 6, 19 => true
  | 6, 20 => true
  | 6, 21 => true
  | 6, 22 => true
  | 6, 23 => true
  | 6, 24 => true
  | _, _ => false
abbrev fw_cStore : Nat := 3
abbrev fw_cMessage : Nat := 1
abbrev fw_cRecoverer : Nat := 2
abbrev fw_tys (aC : Nat → ClassId) : List (ClassId × FieldType) := [(aC 20, .int), (aC 21, .boolean), (aC 22, .long), (aC 23, .object "FencedLedger$Store"), (aC 24, .object "FencedLedger$Message"), (aC 25, .object "FencedLedger$Recoverer")]
def fw_ws : List Cond := lw_tbl.filter goodWord
def fw_isN (w : Cond) : Bool := match w with
  | .fieldLinkNest .. => true
  | .methodLinkNest .. => true
  | _ => false
def fw_nest : List Cond := lw_tbl.filter fw_isN
theorem fw_in1 {w : Cond} (h : w ∈ tables_1_1) : w ∈ lw_tbl := List.mem_append_right _ (List.mem_append_left _ h)
theorem fw_in2 {w : Cond} (h : w ∈ tables_1_2) : w ∈ lw_tbl := List.mem_append_right _ (List.mem_append_right _ (List.mem_append_left _ h))
theorem fw_in3 {w : Cond} (h : w ∈ tables_1_3) : w ∈ lw_tbl := List.mem_append_right _ (List.mem_append_right _ (List.mem_append_right _ (List.mem_append_left _ h)))
theorem fw_in4 {w : Cond} (h : w ∈ tables_1_4) : w ∈ lw_tbl := List.mem_append_right _ (List.mem_append_right _ (List.mem_append_right _ (List.mem_append_right _ h)))
abbrev b_MS_init : ByteArray := prog_3_method_1_code
def y_MS_init : MethodName := ⟨R_MS, "<init>", "()V"⟩
def w_MS_init : List Cond := .code y_MS_init b_MS_init 1 none :: fw_ws
abbrev r_MS_init : Room := { frames := 1, cells := 0, slots := 0, locals := 20 }
abbrev b_CH_init : ByteArray := prog_2_method_1_code
def y_CH_init : MethodName := ⟨R_CH, "<init>", "()V"⟩
def w_CH_init : List Cond := .code y_CH_init b_CH_init 2 none :: fw_ws
abbrev r_CH_init : Room := { frames := 2, cells := 22, slots := 167, locals := 40 }
abbrev b_CH_holds : ByteArray := prog_2_method_2_code
def y_CH_holds : MethodName := ⟨R_CH, "holds", "(I)Z"⟩
def w_CH_holds : List Cond := .code y_CH_holds b_CH_holds 2 (some .boolean) :: fw_ws
abbrev r_CH_holds : Room := { frames := 0, cells := 0, slots := 0, locals := 0 }
abbrev b_CH_send : ByteArray := prog_2_method_3_code
def y_CH_send : MethodName := ⟨R_CH, "send", "(IIIIIII)V"⟩
def w_CH_send : List Cond := .code y_CH_send b_CH_send 9 none :: fw_ws
abbrev r_CH_send : Room := { frames := 0, cells := 0, slots := 0, locals := 0 }
abbrev b_CH_takeOut : ByteArray := prog_2_method_4_code
def y_CH_takeOut : MethodName := ⟨R_CH, "takeOut", "(I)LFencedLedger$Message;"⟩
def w_CH_takeOut : List Cond := .code y_CH_takeOut b_CH_takeOut 4 (some (.object "FencedLedger$Message")) :: fw_ws
abbrev r_CH_takeOut : Room := { frames := 0, cells := 0, slots := 0, locals := 0 }
abbrev b_MS_isToStore : ByteArray := prog_3_method_2_code
def y_MS_isToStore : MethodName := ⟨R_MS, "isToStore", "()Z"⟩
def w_MS_isToStore : List Cond := .code y_MS_isToStore b_MS_isToStore 1 (some .boolean) :: fw_ws
abbrev r_MS_isToStore : Room := { frames := 0, cells := 0, slots := 0, locals := 0 }
abbrev b_MS_detail : ByteArray := prog_3_method_3_code
def y_MS_detail : MethodName := ⟨R_MS, "detail", "(I)I"⟩
def w_MS_detail : List Cond := .code y_MS_detail b_MS_detail 2 (some .int) :: fw_ws
abbrev r_MS_detail : Room := { frames := 0, cells := 0, slots := 0, locals := 0 }
abbrev b_RC_init : ByteArray := prog_4_method_1_code
def y_RC_init : MethodName := ⟨R_RC, "<init>", "(I)V"⟩
def w_RC_init : List Cond := .code y_RC_init b_RC_init 2 none :: fw_ws
abbrev r_RC_init : Room := { frames := 1, cells := 0, slots := 0, locals := 20 }
abbrev b_RC_isBusy : ByteArray := prog_4_method_2_code
def y_RC_isBusy : MethodName := ⟨R_RC, "isBusy", "()Z"⟩
def w_RC_isBusy : List Cond := .code y_RC_isBusy b_RC_isBusy 1 (some .boolean) :: fw_ws
abbrev r_RC_isBusy : Room := { frames := 0, cells := 0, slots := 0, locals := 0 }
abbrev b_RC_awaits : ByteArray := prog_4_method_3_code
def y_RC_awaits : MethodName := ⟨R_RC, "awaits", "(II)Z"⟩
def w_RC_awaits : List Cond := .code y_RC_awaits b_RC_awaits 3 (some .boolean) :: fw_ws
abbrev r_RC_awaits : Room := { frames := 0, cells := 0, slots := 0, locals := 0 }
abbrev b_RC_beginFencing : ByteArray := prog_4_method_4_code
def y_RC_beginFencing : MethodName := ⟨R_RC, "beginFencing", "(I)V"⟩
def w_RC_beginFencing : List Cond := .code y_RC_beginFencing b_RC_beginFencing 2 none :: fw_ws
abbrev r_RC_beginFencing : Room := { frames := 0, cells := 0, slots := 0, locals := 0 }
abbrev b_RC_beginReading : ByteArray := prog_4_method_5_code
def y_RC_beginReading : MethodName := ⟨R_RC, "beginReading", "(I)V"⟩
def w_RC_beginReading : List Cond := .code y_RC_beginReading b_RC_beginReading 2 none :: fw_ws
abbrev r_RC_beginReading : Room := { frames := 0, cells := 0, slots := 0, locals := 0 }
abbrev b_RC_beginWritingBack : ByteArray := prog_4_method_6_code
def y_RC_beginWritingBack : MethodName := ⟨R_RC, "beginWritingBack", "(I)V"⟩
def w_RC_beginWritingBack : List Cond := .code y_RC_beginWritingBack b_RC_beginWritingBack 2 none :: fw_ws
abbrev r_RC_beginWritingBack : Room := { frames := 0, cells := 0, slots := 0, locals := 0 }
abbrev b_RC_noteAnswer : ByteArray := prog_4_method_7_code
def y_RC_noteAnswer : MethodName := ⟨R_RC, "noteAnswer", "(I)V"⟩
def w_RC_noteAnswer : List Cond := .code y_RC_noteAnswer b_RC_noteAnswer 2 none :: fw_ws
abbrev r_RC_noteAnswer : Room := { frames := 0, cells := 0, slots := 0, locals := 0 }
abbrev b_JI_bitCount : ByteArray := prog_12_method_49_code
def y_JI_bitCount : MethodName := ⟨R_JI, "bitCount", "(I)I"⟩
def w_JI_bitCount : List Cond := .code y_JI_bitCount b_JI_bitCount 1 (some .int) :: fw_ws
abbrev r_JI_bitCount : Room := { frames := 0, cells := 0, slots := 0, locals := 0 }
abbrev b_RC_countAnswered : ByteArray := prog_4_method_8_code
def y_RC_countAnswered : MethodName := ⟨R_RC, "countAnswered", "()I"⟩
def w_RC_countAnswered : List Cond := .code y_RC_countAnswered b_RC_countAnswered 1 (some .int) :: fw_ws
abbrev r_RC_countAnswered : Room := { frames := 1, cells := 0, slots := 0, locals := 20 }
abbrev b_RC_detail : ByteArray := prog_4_method_9_code
def y_RC_detail : MethodName := ⟨R_RC, "detail", "(I)I"⟩
def w_RC_detail : List Cond := .code y_RC_detail b_RC_detail 2 (some .int) :: fw_ws
abbrev r_RC_detail : Room := { frames := 2, cells := 0, slots := 0, locals := 40 }
abbrev b_ST_init : ByteArray := prog_5_method_1_code
def y_ST_init : MethodName := ⟨R_ST, "<init>", "()V"⟩
def w_ST_init : List Cond := .code y_ST_init b_ST_init 1 none :: fw_ws
abbrev r_ST_init : Room := { frames := 1, cells := 2, slots := 40, locals := 20 }
abbrev b_ST_keep : ByteArray := prog_5_method_2_code
def y_ST_keep : MethodName := ⟨R_ST, "keep", "(III)V"⟩
def w_ST_keep : List Cond := .code y_ST_keep b_ST_keep 4 none :: fw_ws
abbrev r_ST_keep : Room := { frames := 1, cells := 0, slots := 0, locals := 21 }
abbrev b_ST_detail : ByteArray := prog_5_method_3_code
def y_ST_detail : MethodName := ⟨R_ST, "detail", "(I)I"⟩
def w_ST_detail : List Cond := .code y_ST_detail b_ST_detail 2 (some .int) :: fw_ws
abbrev r_ST_detail : Room := { frames := 0, cells := 0, slots := 0, locals := 0 }
abbrev b_WR_init : ByteArray := prog_6_method_1_code
def y_WR_init : MethodName := ⟨R_WR, "<init>", "()V"⟩
def w_WR_init : List Cond := .code y_WR_init b_WR_init 1 none :: fw_ws
abbrev r_WR_init : Room := { frames := 1, cells := 2, slots := 40, locals := 20 }
abbrev b_WR_isFull : ByteArray := prog_6_method_2_code
def y_WR_isFull : MethodName := ⟨R_WR, "isFull", "()Z"⟩
def w_WR_isFull : List Cond := .code y_WR_isFull b_WR_isFull 1 (some .boolean) :: fw_ws
abbrev r_WR_isFull : Room := { frames := 0, cells := 0, slots := 0, locals := 0 }
abbrev b_WR_knows : ByteArray := prog_6_method_3_code
def y_WR_knows : MethodName := ⟨R_WR, "knows", "(I)Z"⟩
def w_WR_knows : List Cond := .code y_WR_knows b_WR_knows 2 (some .boolean) :: fw_ws
abbrev r_WR_knows : Room := { frames := 0, cells := 0, slots := 0, locals := 0 }
abbrev b_WR_append : ByteArray := prog_6_method_4_code
def y_WR_append : MethodName := ⟨R_WR, "append", "(I)I"⟩
def w_WR_append : List Cond := .code y_WR_append b_WR_append 3 (some .int) :: fw_ws
abbrev r_WR_append : Room := { frames := 0, cells := 0, slots := 0, locals := 0 }
abbrev b_WR_countAnswers : ByteArray := prog_6_method_5_code
def y_WR_countAnswers : MethodName := ⟨R_WR, "countAnswers", "(I)I"⟩
def w_WR_countAnswers : List Cond := .code y_WR_countAnswers b_WR_countAnswers 2 (some .int) :: fw_ws
abbrev r_WR_countAnswers : Room := { frames := 1, cells := 0, slots := 0, locals := 20 }
abbrev b_WR_advanceLac : ByteArray := prog_6_method_7_code
def y_WR_advanceLac : MethodName := ⟨R_WR, "advanceLac", "(I)V"⟩
def w_WR_advanceLac : List Cond := .code y_WR_advanceLac b_WR_advanceLac 3 none :: fw_ws
abbrev r_WR_advanceLac : Room := { frames := 2, cells := 0, slots := 0, locals := 41 }
abbrev b_WR_hear : ByteArray := prog_6_method_6_code
def y_WR_hear : MethodName := ⟨R_WR, "hear", "(LFencedLedger$Message;I)V"⟩
def w_WR_hear : List Cond := .code y_WR_hear b_WR_hear 3 none :: fw_ws
abbrev r_WR_hear : Room := { frames := 3, cells := 0, slots := 0, locals := 63 }
abbrev b_FL_nearest : ByteArray := prog_1_method_21_code
def y_FL_nearest : MethodName := ⟨R_FL, "nearest", "(III)I"⟩
def w_FL_nearest : List Cond := .code y_FL_nearest b_FL_nearest 3 (some .int) :: fw_ws
abbrev r_FL_nearest : Room := { frames := 1, cells := 0, slots := 0, locals := 21 }
abbrev b_FL_init : ByteArray := prog_1_method_1_code
def y_FL_init : MethodName := ⟨R_FL, "<init>", "(III)V"⟩
def w_FL_init : List Cond := .code y_FL_init b_FL_init 5 none :: fw_ws
abbrev r_FL_init : Room := { frames := 3, cells := 45, slots := 466, locals := 61 }
abbrev b_FL_setMember : ByteArray := prog_1_method_25_code
def y_FL_setMember : MethodName := ⟨R_FL, "setMember", "(II)I"⟩
def w_FL_setMember : List Cond := .code y_FL_setMember b_FL_setMember 3 (some .int) :: fw_ws
abbrev r_FL_setMember : Room := { frames := 0, cells := 0, slots := 0, locals := 0 }
abbrev b_FL_sendToSet : ByteArray := prog_1_method_29_code
def y_FL_sendToSet : MethodName := ⟨R_FL, "sendToSet", "(IIIIIII)I"⟩
def w_FL_sendToSet : List Cond := .code y_FL_sendToSet b_FL_sendToSet 11 (some .int) :: fw_ws
abbrev r_FL_sendToSet : Room := { frames := 1, cells := 0, slots := 0, locals := 28 }
abbrev b_FL_sendWritersAdd : ByteArray := prog_1_method_28_code
def y_FL_sendWritersAdd : MethodName := ⟨R_FL, "sendWritersAdd", "(I)I"⟩
def w_FL_sendWritersAdd : List Cond := .code y_FL_sendWritersAdd b_FL_sendWritersAdd 3 (some .int) :: fw_ws
abbrev r_FL_sendWritersAdd : Room := { frames := 2, cells := 0, slots := 0, locals := 58 }
abbrev b_FL_resend : ByteArray := prog_1_method_3_code
def y_FL_resend : MethodName := ⟨R_FL, "resend", "(I)I"⟩
def w_FL_resend : List Cond := .code y_FL_resend b_FL_resend 2 (some .int) :: fw_ws
abbrev r_FL_resend : Room := { frames := 3, cells := 0, slots := 0, locals := 80 }
abbrev b_FL_shutLedger : ByteArray := prog_1_method_27_code
def y_FL_shutLedger : MethodName := ⟨R_FL, "shutLedger", "(I)V"⟩
def w_FL_shutLedger : List Cond := .code y_FL_shutLedger b_FL_shutLedger 2 none :: fw_ws
abbrev r_FL_shutLedger : Room := { frames := 0, cells := 0, slots := 0, locals := 0 }
abbrev b_FL_close : ByteArray := prog_1_method_4_code
def y_FL_close : MethodName := ⟨R_FL, "close", "()Z"⟩
def w_FL_close : List Cond := .code y_FL_close b_FL_close 1 (some .boolean) :: fw_ws
abbrev r_FL_close : Room := { frames := 1, cells := 0, slots := 0, locals := 21 }
abbrev b_FL_leave : ByteArray := prog_1_method_5_code
def y_FL_leave : MethodName := ⟨R_FL, "leave", "()Z"⟩
def w_FL_leave : List Cond := .code y_FL_leave b_FL_leave 1 (some .boolean) :: fw_ws
abbrev r_FL_leave : Room := { frames := 0, cells := 0, slots := 0, locals := 0 }
abbrev b_FL_writer : ByteArray := prog_1_method_6_code
def y_FL_writer : MethodName := ⟨R_FL, "writer", "(I)I"⟩
def w_FL_writer : List Cond := .code y_FL_writer b_FL_writer 2 (some .int) :: fw_ws
abbrev r_FL_writer : Room := { frames := 0, cells := 0, slots := 0, locals := 0 }
abbrev b_FL_answers : ByteArray := prog_1_method_7_code
def y_FL_answers : MethodName := ⟨R_FL, "answers", "(I)I"⟩
def w_FL_answers : List Cond := .code y_FL_answers b_FL_answers 2 (some .int) :: fw_ws
abbrev r_FL_answers : Room := { frames := 2, cells := 0, slots := 0, locals := 41 }
abbrev b_FL_isRecoverer : ByteArray := prog_1_method_23_code
def y_FL_isRecoverer : MethodName := ⟨R_FL, "isRecoverer", "(I)Z"⟩
def w_FL_isRecoverer : List Cond := .code y_FL_isRecoverer b_FL_isRecoverer 1 (some .boolean) :: fw_ws
abbrev r_FL_isRecoverer : Room := { frames := 0, cells := 0, slots := 0, locals := 0 }
abbrev b_FL_sendFences : ByteArray := prog_1_method_30_code
def y_FL_sendFences : MethodName := ⟨R_FL, "sendFences", "(LFencedLedger$Recoverer;)I"⟩
def w_FL_sendFences : List Cond := .code y_FL_sendFences b_FL_sendFences 4 (some .int) :: fw_ws
abbrev r_FL_sendFences : Room := { frames := 1, cells := 0, slots := 0, locals := 28 }
abbrev b_FL_sendStep : ByteArray := prog_1_method_31_code
def y_FL_sendStep : MethodName := ⟨R_FL, "sendStep", "(LFencedLedger$Recoverer;)I"⟩
def w_FL_sendStep : List Cond := .code y_FL_sendStep b_FL_sendStep 2 (some .int) :: fw_ws
abbrev r_FL_sendStep : Room := { frames := 2, cells := 0, slots := 0, locals := 58 }
abbrev b_FL_recover : ByteArray := prog_1_method_8_code
def y_FL_recover : MethodName := ⟨R_FL, "recover", "(I)Z"⟩
def w_FL_recover : List Cond := .code y_FL_recover b_FL_recover 3 (some .boolean) :: fw_ws
abbrev r_FL_recover : Room := { frames := 3, cells := 0, slots := 0, locals := 79 }
abbrev b_FL_retry : ByteArray := prog_1_method_9_code
def y_FL_retry : MethodName := ⟨R_FL, "retry", "(I)I"⟩
def w_FL_retry : List Cond := .code y_FL_retry b_FL_retry 2 (some .int) :: fw_ws
abbrev r_FL_retry : Room := { frames := 3, cells := 0, slots := 0, locals := 79 }
abbrev b_FL_abandon : ByteArray := prog_1_method_10_code
def y_FL_abandon : MethodName := ⟨R_FL, "abandon", "(I)Z"⟩
def w_FL_abandon : List Cond := .code y_FL_abandon b_FL_abandon 2 (some .boolean) :: fw_ws
abbrev r_FL_abandon : Room := { frames := 1, cells := 0, slots := 0, locals := 20 }
abbrev b_FL_recoverer : ByteArray := prog_1_method_11_code
def y_FL_recoverer : MethodName := ⟨R_FL, "recoverer", "(II)I"⟩
def w_FL_recoverer : List Cond := .code y_FL_recoverer b_FL_recoverer 3 (some .int) :: fw_ws
abbrev r_FL_recoverer : Room := { frames := 3, cells := 0, slots := 0, locals := 61 }
abbrev b_FL_finish : ByteArray := prog_1_method_42_code
def y_FL_finish : MethodName := ⟨R_FL, "finish", "(LFencedLedger$Recoverer;I)V"⟩
def w_FL_finish : List Cond := .code y_FL_finish b_FL_finish 3 none :: fw_ws
abbrev r_FL_finish : Room := { frames := 1, cells := 0, slots := 0, locals := 21 }
abbrev b_FL_readOn : ByteArray := prog_1_method_41_code
def y_FL_readOn : MethodName := ⟨R_FL, "readOn", "(LFencedLedger$Recoverer;I)V"⟩
def w_FL_readOn : List Cond := .code y_FL_readOn b_FL_readOn 3 none :: fw_ws
abbrev r_FL_readOn : Room := { frames := 3, cells := 0, slots := 0, locals := 79 }
abbrev b_FL_hearAdded : ByteArray := prog_1_method_38_code
def y_FL_hearAdded : MethodName := ⟨R_FL, "hearAdded", "(LFencedLedger$Recoverer;LFencedLedger$Message;)V"⟩
def w_FL_hearAdded : List Cond := .code y_FL_hearAdded b_FL_hearAdded 3 none :: fw_ws
abbrev r_FL_hearAdded : Room := { frames := 4, cells := 0, slots := 0, locals := 101 }
abbrev b_FL_hearMissing : ByteArray := prog_1_method_37_code
def y_FL_hearMissing : MethodName := ⟨R_FL, "hearMissing", "(LFencedLedger$Recoverer;LFencedLedger$Message;)V"⟩
def w_FL_hearMissing : List Cond := .code y_FL_hearMissing b_FL_hearMissing 3 none :: fw_ws
abbrev r_FL_hearMissing : Room := { frames := 2, cells := 0, slots := 0, locals := 43 }
abbrev b_FL_countSilent : ByteArray := prog_1_method_40_code
def y_FL_countSilent : MethodName := ⟨R_FL, "countSilent", "(II)I"⟩
def w_FL_countSilent : List Cond := .code y_FL_countSilent b_FL_countSilent 5 (some .int) :: fw_ws
abbrev r_FL_countSilent : Room := { frames := 1, cells := 0, slots := 0, locals := 22 }
abbrev b_FL_isWriterFencedOut : ByteArray := prog_1_method_39_code
def y_FL_isWriterFencedOut : MethodName := ⟨R_FL, "isWriterFencedOut", "(I)Z"⟩
def w_FL_isWriterFencedOut : List Cond := .code y_FL_isWriterFencedOut b_FL_isWriterFencedOut 3 (some .boolean) :: fw_ws
abbrev r_FL_isWriterFencedOut : Room := { frames := 2, cells := 0, slots := 0, locals := 46 }
abbrev b_FL_hearFenced : ByteArray := prog_1_method_36_code
def y_FL_hearFenced : MethodName := ⟨R_FL, "hearFenced", "(LFencedLedger$Recoverer;LFencedLedger$Message;)V"⟩
def w_FL_hearFenced : List Cond := .code y_FL_hearFenced b_FL_hearFenced 3 none :: fw_ws
abbrev r_FL_hearFenced : Room := { frames := 4, cells := 0, slots := 0, locals := 101 }
abbrev b_FL_reachRecoverer : ByteArray := prog_1_method_35_code
def y_FL_reachRecoverer : MethodName := ⟨R_FL, "reachRecoverer", "(LFencedLedger$Message;)V"⟩
def w_FL_reachRecoverer : List Cond := .code y_FL_reachRecoverer b_FL_reachRecoverer 3 none :: fw_ws
abbrev r_FL_reachRecoverer : Room := { frames := 5, cells := 0, slots := 0, locals := 123 }
abbrev b_FL_sendAnswer : ByteArray := prog_1_method_34_code
def y_FL_sendAnswer : MethodName := ⟨R_FL, "sendAnswer", "(LFencedLedger$Message;II)V"⟩
def w_FL_sendAnswer : List Cond := .code y_FL_sendAnswer b_FL_sendAnswer 4 none :: fw_ws
abbrev r_FL_sendAnswer : Room := { frames := 1, cells := 0, slots := 0, locals := 28 }
abbrev b_FL_reachStoreWithAdd : ByteArray := prog_1_method_33_code
def y_FL_reachStoreWithAdd : MethodName := ⟨R_FL, "reachStoreWithAdd", "(LFencedLedger$Store;LFencedLedger$Message;)V"⟩
def w_FL_reachStoreWithAdd : List Cond := .code y_FL_reachStoreWithAdd b_FL_reachStoreWithAdd 3 none :: fw_ws
abbrev r_FL_reachStoreWithAdd : Room := { frames := 2, cells := 0, slots := 0, locals := 51 }
abbrev b_FL_reachStore : ByteArray := prog_1_method_32_code
def y_FL_reachStore : MethodName := ⟨R_FL, "reachStore", "(LFencedLedger$Message;)V"⟩
def w_FL_reachStore : List Cond := .code y_FL_reachStore b_FL_reachStore 3 none :: fw_ws
abbrev r_FL_reachStore : Room := { frames := 3, cells := 0, slots := 0, locals := 73 }
abbrev b_FL_deliver : ByteArray := prog_1_method_12_code
def y_FL_deliver : MethodName := ⟨R_FL, "deliver", "(I)I"⟩
def w_FL_deliver : List Cond := .code y_FL_deliver b_FL_deliver 3 (some .int) :: fw_ws
abbrev r_FL_deliver : Room := { frames := 6, cells := 0, slots := 0, locals := 145 }
abbrev b_FL_lose : ByteArray := prog_1_method_13_code
def y_FL_lose : MethodName := ⟨R_FL, "lose", "(I)Z"⟩
def w_FL_lose : List Cond := .code y_FL_lose b_FL_lose 2 (some .boolean) :: fw_ws
abbrev r_FL_lose : Room := { frames := 1, cells := 0, slots := 0, locals := 23 }
abbrev b_FL_flight : ByteArray := prog_1_method_14_code
def y_FL_flight : MethodName := ⟨R_FL, "flight", "()I"⟩
def w_FL_flight : List Cond := .code y_FL_flight b_FL_flight 1 (some .int) :: fw_ws
abbrev r_FL_flight : Room := { frames := 0, cells := 0, slots := 0, locals := 0 }
abbrev b_FL_message : ByteArray := prog_1_method_15_code
def y_FL_message : MethodName := ⟨R_FL, "message", "(II)I"⟩
def w_FL_message : List Cond := .code y_FL_message b_FL_message 3 (some .int) :: fw_ws
abbrev r_FL_message : Room := { frames := 1, cells := 0, slots := 0, locals := 21 }
abbrev b_FL_isStore : ByteArray := prog_1_method_24_code
def y_FL_isStore : MethodName := ⟨R_FL, "isStore", "(I)Z"⟩
def w_FL_isStore : List Cond := .code y_FL_isStore b_FL_isStore 2 (some .boolean) :: fw_ws
abbrev r_FL_isStore : Room := { frames := 0, cells := 0, slots := 0, locals := 0 }
abbrev b_FL_power : ByteArray := prog_1_method_16_code
def y_FL_power : MethodName := ⟨R_FL, "power", "(IZ)Z"⟩
def w_FL_power : List Cond := .code y_FL_power b_FL_power 3 (some .boolean) :: fw_ws
abbrev r_FL_power : Room := { frames := 1, cells := 0, slots := 0, locals := 21 }
abbrev b_FL_store : ByteArray := prog_1_method_17_code
def y_FL_store : MethodName := ⟨R_FL, "store", "(II)I"⟩
def w_FL_store : List Cond := .code y_FL_store b_FL_store 3 (some .int) :: fw_ws
abbrev r_FL_store : Room := { frames := 1, cells := 0, slots := 0, locals := 21 }
abbrev b_FL_isEntry : ByteArray := prog_1_method_22_code
def y_FL_isEntry : MethodName := ⟨R_FL, "isEntry", "(I)Z"⟩
def w_FL_isEntry : List Cond := .code y_FL_isEntry b_FL_isEntry 1 (some .boolean) :: fw_ws
abbrev r_FL_isEntry : Room := { frames := 0, cells := 0, slots := 0, locals := 0 }
abbrev b_FL_has : ByteArray := prog_1_method_18_code
def y_FL_has : MethodName := ⟨R_FL, "has", "(II)Z"⟩
def w_FL_has : List Cond := .code y_FL_has b_FL_has 3 (some .boolean) :: fw_ws
abbrev r_FL_has : Room := { frames := 1, cells := 0, slots := 0, locals := 21 }
abbrev b_FL_ledger : ByteArray := prog_1_method_19_code
def y_FL_ledger : MethodName := ⟨R_FL, "ledger", "(I)I"⟩
def w_FL_ledger : List Cond := .code y_FL_ledger b_FL_ledger 2 (some .int) :: fw_ws
abbrev r_FL_ledger : Room := { frames := 0, cells := 0, slots := 0, locals := 0 }
abbrev b_FL_firstUpWith : ByteArray := prog_1_method_26_code
def y_FL_firstUpWith : MethodName := ⟨R_FL, "firstUpWith", "(I)I"⟩
def w_FL_firstUpWith : List Cond := .code y_FL_firstUpWith b_FL_firstUpWith 4 (some .int) :: fw_ws
abbrev r_FL_firstUpWith : Room := { frames := 1, cells := 0, slots := 0, locals := 22 }
abbrev b_MD_init : ByteArray := prog_8_method_1_code
def y_MD_init : MethodName := ⟨R_MD, "<init>", "(III)V"⟩
def w_MD_init : List Cond := .code y_MD_init b_MD_init 5 none :: fw_ws
abbrev r_MD_init : Room := { frames := 1, cells := 14, slots := 505, locals := 20 }
abbrev b_MD_thrown : ByteArray := prog_8_method_2_code
def y_MD_thrown : MethodName := ⟨R_MD, "thrown", "()I"⟩
def w_MD_thrown : List Cond := .code y_MD_thrown b_MD_thrown 1 (some .int) :: fw_ws
abbrev r_MD_thrown : Room := { frames := 0, cells := 0, slots := 0, locals := 0 }
abbrev b_MD_send : ByteArray := prog_8_method_3_code
def y_MD_send : MethodName := ⟨R_MD, "send", "(IIIIIII)V"⟩
def w_MD_send : List Cond := .code y_MD_send b_MD_send 9 none :: fw_ws
abbrev r_MD_send : Room := { frames := 0, cells := 0, slots := 0, locals := 0 }
abbrev b_MD_remove : ByteArray := prog_8_method_4_code
def y_MD_remove : MethodName := ⟨R_MD, "remove", "(I)V"⟩
def w_MD_remove : List Cond := .code y_MD_remove b_MD_remove 3 none :: fw_ws
abbrev r_MD_remove : Room := { frames := 0, cells := 0, slots := 0, locals := 0 }
abbrev b_MD_isMessage : ByteArray := prog_8_method_5_code
def y_MD_isMessage : MethodName := ⟨R_MD, "isMessage", "(I)Z"⟩
def w_MD_isMessage : List Cond := .code y_MD_isMessage b_MD_isMessage 2 (some .boolean) :: fw_ws
abbrev r_MD_isMessage : Room := { frames := 0, cells := 0, slots := 0, locals := 0 }
abbrev b_MD_answerCount : ByteArray := prog_8_method_20_code
def y_MD_answerCount : MethodName := ⟨R_MD, "answerCount", "(I)I"⟩
def w_MD_answerCount : List Cond := .code y_MD_answerCount b_MD_answerCount 4 (some .int) :: fw_ws
abbrev r_MD_answerCount : Room := { frames := 0, cells := 0, slots := 0, locals := 0 }
abbrev b_MD_forget : ByteArray := prog_8_method_19_code
def y_MD_forget : MethodName := ⟨R_MD, "forget", "(I)V"⟩
def w_MD_forget : List Cond := .code y_MD_forget b_MD_forget 3 none :: fw_ws
abbrev r_MD_forget : Room := { frames := 0, cells := 0, slots := 0, locals := 0 }
abbrev b_MD_ask : ByteArray := prog_8_method_21_code
def y_MD_ask : MethodName := ⟨R_MD, "ask", "(I)I"⟩
def w_MD_ask : List Cond := .code y_MD_ask b_MD_ask 6 (some .int) :: fw_ws
abbrev r_MD_ask : Room := { frames := 1, cells := 0, slots := 0, locals := 28 }
abbrev b_MD_finish : ByteArray := prog_8_method_22_code
def y_MD_finish : MethodName := ⟨R_MD, "finish", "(II)V"⟩
def w_MD_finish : List Cond := .code y_MD_finish b_MD_finish 3 none :: fw_ws
abbrev r_MD_finish : Room := { frames := 0, cells := 0, slots := 0, locals := 0 }
abbrev b_MD_readOn : ByteArray := prog_8_method_23_code
def y_MD_readOn : MethodName := ⟨R_MD, "readOn", "(II)V"⟩
def w_MD_readOn : List Cond := .code y_MD_readOn b_MD_readOn 4 none :: fw_ws
abbrev r_MD_readOn : Room := { frames := 2, cells := 0, slots := 0, locals := 53 }
abbrev b_MD_covers : ByteArray := prog_8_method_24_code
def y_MD_covers : MethodName := ⟨R_MD, "covers", "(I)Z"⟩
def w_MD_covers : List Cond := .code y_MD_covers b_MD_covers 6 (some .boolean) :: fw_ws
abbrev r_MD_covers : Room := { frames := 0, cells := 0, slots := 0, locals := 0 }
abbrev b_MD_learns : ByteArray := prog_8_method_25_code
def y_MD_learns : MethodName := ⟨R_MD, "learns", "(IIIII)V"⟩
def w_MD_learns : List Cond := .code y_MD_learns b_MD_learns 8 none :: fw_ws
abbrev r_MD_learns : Room := { frames := 3, cells := 0, slots := 0, locals := 76 }
abbrev b_MD_ackCount : ByteArray := prog_8_method_12_code
def y_MD_ackCount : MethodName := ⟨R_MD, "ackCount", "(I)I"⟩
def w_MD_ackCount : List Cond := .code y_MD_ackCount b_MD_ackCount 4 (some .int) :: fw_ws
abbrev r_MD_ackCount : Room := { frames := 0, cells := 0, slots := 0, locals := 0 }
abbrev b_MD_hears : ByteArray := prog_8_method_13_code
def y_MD_hears : MethodName := ⟨R_MD, "hears", "(III)V"⟩
def w_MD_hears : List Cond := .code y_MD_hears b_MD_hears 6 none :: fw_ws
abbrev r_MD_hears : Room := { frames := 1, cells := 0, slots := 0, locals := 23 }
abbrev b_MD_fence : ByteArray := prog_8_method_11_code
def y_MD_fence : MethodName := ⟨R_MD, "fence", "(IIIII)V"⟩
def w_MD_fence : List Cond := .code y_MD_fence b_MD_fence 6 none :: fw_ws
abbrev r_MD_fence : Room := { frames := 1, cells := 0, slots := 0, locals := 28 }
abbrev b_MD_keep : ByteArray := prog_8_method_10_code
def y_MD_keep : MethodName := ⟨R_MD, "keep", "(IIIIII)V"⟩
def w_MD_keep : List Cond := .code y_MD_keep b_MD_keep 7 none :: fw_ws
abbrev r_MD_keep : Room := { frames := 1, cells := 0, slots := 0, locals := 28 }
abbrev b_MD_deliver : ByteArray := prog_8_method_6_code
def y_MD_deliver : MethodName := ⟨R_MD, "deliver", "(I)I"⟩
def w_MD_deliver : List Cond := .code y_MD_deliver b_MD_deliver 10 (some .int) :: fw_ws
abbrev r_MD_deliver : Room := { frames := 4, cells := 0, slots := 0, locals := 103 }
abbrev b_MD_lose : ByteArray := prog_8_method_7_code
def y_MD_lose : MethodName := ⟨R_MD, "lose", "(I)Z"⟩
def w_MD_lose : List Cond := .code y_MD_lose b_MD_lose 2 (some .boolean) :: fw_ws
abbrev r_MD_lose : Room := { frames := 1, cells := 0, slots := 0, locals := 22 }
abbrev b_MD_flight : ByteArray := prog_8_method_8_code
def y_MD_flight : MethodName := ⟨R_MD, "flight", "()I"⟩
def w_MD_flight : List Cond := .code y_MD_flight b_MD_flight 1 (some .int) :: fw_ws
abbrev r_MD_flight : Room := { frames := 0, cells := 0, slots := 0, locals := 0 }
abbrev b_MD_message : ByteArray := prog_8_method_9_code
def y_MD_message : MethodName := ⟨R_MD, "message", "(II)I"⟩
def w_MD_message : List Cond := .code y_MD_message b_MD_message 3 (some .int) :: fw_ws
abbrev r_MD_message : Room := { frames := 1, cells := 0, slots := 0, locals := 21 }
abbrev b_MD_spread : ByteArray := prog_8_method_14_code
def y_MD_spread : MethodName := ⟨R_MD, "spread", "(I)I"⟩
def w_MD_spread : List Cond := .code y_MD_spread b_MD_spread 5 (some .int) :: fw_ws
abbrev r_MD_spread : Room := { frames := 1, cells := 0, slots := 0, locals := 28 }
abbrev b_MD_add : ByteArray := prog_8_method_15_code
def y_MD_add : MethodName := ⟨R_MD, "add", "(I)I"⟩
def w_MD_add : List Cond := .code y_MD_add b_MD_add 4 (some .int) :: fw_ws
abbrev r_MD_add : Room := { frames := 2, cells := 0, slots := 0, locals := 52 }
abbrev b_MD_resend : ByteArray := prog_8_method_16_code
def y_MD_resend : MethodName := ⟨R_MD, "resend", "(I)I"⟩
def w_MD_resend : List Cond := .code y_MD_resend b_MD_resend 2 (some .int) :: fw_ws
abbrev r_MD_resend : Room := { frames := 2, cells := 0, slots := 0, locals := 52 }
abbrev b_MD_close : ByteArray := prog_8_method_17_code
def y_MD_close : MethodName := ⟨R_MD, "close", "()Z"⟩
def w_MD_close : List Cond := .code y_MD_close b_MD_close 1 (some .boolean) :: fw_ws
abbrev r_MD_close : Room := { frames := 0, cells := 0, slots := 0, locals := 0 }
abbrev b_MD_leave : ByteArray := prog_8_method_18_code
def y_MD_leave : MethodName := ⟨R_MD, "leave", "()Z"⟩
def w_MD_leave : List Cond := .code y_MD_leave b_MD_leave 2 (some .boolean) :: fw_ws
abbrev r_MD_leave : Room := { frames := 0, cells := 0, slots := 0, locals := 0 }
abbrev b_MD_isRecoverer : ByteArray := prog_8_method_26_code
def y_MD_isRecoverer : MethodName := ⟨R_MD, "isRecoverer", "(I)Z"⟩
def w_MD_isRecoverer : List Cond := .code y_MD_isRecoverer b_MD_isRecoverer 1 (some .boolean) :: fw_ws
abbrev r_MD_isRecoverer : Room := { frames := 0, cells := 0, slots := 0, locals := 0 }
abbrev b_MD_recover : ByteArray := prog_8_method_27_code
def y_MD_recover : MethodName := ⟨R_MD, "recover", "(I)Z"⟩
def w_MD_recover : List Cond := .code y_MD_recover b_MD_recover 3 (some .boolean) :: fw_ws
abbrev r_MD_recover : Room := { frames := 2, cells := 0, slots := 0, locals := 53 }
abbrev b_MD_busy : ByteArray := prog_8_method_28_code
def y_MD_busy : MethodName := ⟨R_MD, "busy", "(I)Z"⟩
def w_MD_busy : List Cond := .code y_MD_busy b_MD_busy 2 (some .boolean) :: fw_ws
abbrev r_MD_busy : Room := { frames := 1, cells := 0, slots := 0, locals := 20 }
abbrev b_MD_retry : ByteArray := prog_8_method_29_code
def y_MD_retry : MethodName := ⟨R_MD, "retry", "(I)I"⟩
def w_MD_retry : List Cond := .code y_MD_retry b_MD_retry 2 (some .int) :: fw_ws
abbrev r_MD_retry : Room := { frames := 2, cells := 0, slots := 0, locals := 53 }
abbrev b_MD_abandon : ByteArray := prog_8_method_30_code
def y_MD_abandon : MethodName := ⟨R_MD, "abandon", "(I)Z"⟩
def w_MD_abandon : List Cond := .code y_MD_abandon b_MD_abandon 2 (some .boolean) :: fw_ws
abbrev r_MD_abandon : Room := { frames := 2, cells := 0, slots := 0, locals := 41 }
abbrev b_MD_isStore : ByteArray := prog_8_method_31_code
def y_MD_isStore : MethodName := ⟨R_MD, "isStore", "(I)Z"⟩
def w_MD_isStore : List Cond := .code y_MD_isStore b_MD_isStore 2 (some .boolean) :: fw_ws
abbrev r_MD_isStore : Room := { frames := 0, cells := 0, slots := 0, locals := 0 }
abbrev b_MD_power : ByteArray := prog_8_method_32_code
def y_MD_power : MethodName := ⟨R_MD, "power", "(IZ)Z"⟩
def w_MD_power : List Cond := .code y_MD_power b_MD_power 4 (some .boolean) :: fw_ws
abbrev r_MD_power : Room := { frames := 1, cells := 0, slots := 0, locals := 21 }
abbrev b_MD_store : ByteArray := prog_8_method_33_code
def y_MD_store : MethodName := ⟨R_MD, "store", "(II)I"⟩
def w_MD_store : List Cond := .code y_MD_store b_MD_store 5 (some .int) :: fw_ws
abbrev r_MD_store : Room := { frames := 1, cells := 0, slots := 0, locals := 21 }
abbrev b_MD_has : ByteArray := prog_8_method_34_code
def y_MD_has : MethodName := ⟨R_MD, "has", "(II)Z"⟩
def w_MD_has : List Cond := .code y_MD_has b_MD_has 3 (some .boolean) :: fw_ws
abbrev r_MD_has : Room := { frames := 1, cells := 0, slots := 0, locals := 21 }
abbrev b_MD_writer : ByteArray := prog_8_method_35_code
def y_MD_writer : MethodName := ⟨R_MD, "writer", "(I)I"⟩
def w_MD_writer : List Cond := .code y_MD_writer b_MD_writer 2 (some .int) :: fw_ws
abbrev r_MD_writer : Room := { frames := 0, cells := 0, slots := 0, locals := 0 }
abbrev b_MD_answers : ByteArray := prog_8_method_36_code
def y_MD_answers : MethodName := ⟨R_MD, "answers", "(I)I"⟩
def w_MD_answers : List Cond := .code y_MD_answers b_MD_answers 2 (some .int) :: fw_ws
abbrev r_MD_answers : Room := { frames := 1, cells := 0, slots := 0, locals := 23 }
abbrev b_MD_recoverer : ByteArray := prog_8_method_37_code
def y_MD_recoverer : MethodName := ⟨R_MD, "recoverer", "(II)I"⟩
def w_MD_recoverer : List Cond := .code y_MD_recoverer b_MD_recoverer 3 (some .int) :: fw_ws
abbrev r_MD_recoverer : Room := { frames := 1, cells := 0, slots := 0, locals := 23 }
abbrev b_MD_ledger : ByteArray := prog_8_method_38_code
def y_MD_ledger : MethodName := ⟨R_MD, "ledger", "(I)I"⟩
def w_MD_ledger : List Cond := .code y_MD_ledger b_MD_ledger 2 (some .int) :: fw_ws
abbrev r_MD_ledger : Room := { frames := 0, cells := 0, slots := 0, locals := 0 }
abbrev b_MD_read : ByteArray := prog_8_method_39_code
def y_MD_read : MethodName := ⟨R_MD, "read", "(I)I"⟩
def w_MD_read : List Cond := .code y_MD_read b_MD_read 4 (some .int) :: fw_ws
abbrev r_MD_read : Room := { frames := 0, cells := 0, slots := 0, locals := 0 }
theorem wq_1_1 : (Jvm.Cond.initialized "FencedLedger") ∈ fw_ws := List.mem_filter.mpr ⟨fw_in1 (List.mem_of_getElem? (l := tables_1_1) (i := 1) rfl), rfl⟩
theorem wq_1_2 : (Jvm.Cond.initialized "java/lang/Math") ∈ fw_ws := List.mem_filter.mpr ⟨fw_in1 (List.mem_of_getElem? (l := tables_1_1) (i := 2) rfl), rfl⟩
theorem wq_1_3 : (Jvm.Cond.initialized "FencedLedger$Store") ∈ fw_ws := List.mem_filter.mpr ⟨fw_in1 (List.mem_of_getElem? (l := tables_1_1) (i := 3) rfl), rfl⟩
theorem wq_1_4 : (Jvm.Cond.initialized "FencedLedger$Channel") ∈ fw_ws := List.mem_filter.mpr ⟨fw_in1 (List.mem_of_getElem? (l := tables_1_1) (i := 4) rfl), rfl⟩
theorem wq_1_5 : (Jvm.Cond.initialized "FencedLedger$Message") ∈ fw_ws := List.mem_filter.mpr ⟨fw_in1 (List.mem_of_getElem? (l := tables_1_1) (i := 5) rfl), rfl⟩
theorem wq_1_6 : (Jvm.Cond.initialized "FencedLedger$Writer") ∈ fw_ws := List.mem_filter.mpr ⟨fw_in1 (List.mem_of_getElem? (l := tables_1_1) (i := 6) rfl), rfl⟩
theorem wq_1_7 : (Jvm.Cond.initialized "FencedLedger$Recoverer") ∈ fw_ws := List.mem_filter.mpr ⟨fw_in1 (List.mem_of_getElem? (l := tables_1_1) (i := 7) rfl), rfl⟩
theorem wq_1_8 : (Jvm.Cond.initialized "FencedLedgerModel") ∈ fw_ws := List.mem_filter.mpr ⟨fw_in1 (List.mem_of_getElem? (l := tables_1_1) (i := 8) rfl), rfl⟩
theorem wq_1_14 : (Jvm.Cond.initialized "java/lang/Integer") ∈ fw_ws := List.mem_filter.mpr ⟨fw_in1 (List.mem_of_getElem? (l := tables_1_1) (i := 14) rfl), rfl⟩
theorem wq_1_21 : (Jvm.Cond.methodLink "FencedLedger" (1 : Nat) ({ cls := "java/lang/Object", name := "<init>", desc := "()V" } : Jvm.MethodName)) ∈ fw_ws := List.mem_filter.mpr ⟨fw_in1 (List.mem_of_getElem? (l := tables_1_1) (i := 21) rfl), rfl⟩
theorem wq_1_22 : (Jvm.Cond.instanceMethod ({ cls := "java/lang/Object", name := "<init>", desc := "()V" } : Jvm.MethodName)) ∈ fw_ws := List.mem_filter.mpr ⟨fw_in1 (List.mem_of_getElem? (l := tables_1_1) (i := 22) rfl), rfl⟩
theorem wq_1_23 : (Jvm.Cond.code ({ cls := "java/lang/Object", name := "<init>", desc := "()V" } : Jvm.MethodName) object_method_1_code (1 : Nat) (Option.none : Option Jvm.ClassFile.FieldType)) ∈ fw_ws := List.mem_filter.mpr ⟨fw_in1 (List.mem_of_getElem? (l := tables_1_1) (i := 23) rfl), rfl⟩
theorem wq_1_24 : (Jvm.Cond.methodLink "FencedLedger" (7 : Nat) ({ cls := "FencedLedger", name := "nearest", desc := "(III)I" } : Jvm.MethodName)) ∈ fw_ws := List.mem_filter.mpr ⟨fw_in1 (List.mem_of_getElem? (l := tables_1_1) (i := 24) rfl), rfl⟩
theorem wq_1_25 : (Jvm.Cond.static ({ cls := "FencedLedger", name := "nearest", desc := "(III)I" } : Jvm.MethodName)) ∈ fw_ws := List.mem_filter.mpr ⟨fw_in1 (List.mem_of_getElem? (l := tables_1_1) (i := 25) rfl), rfl⟩
theorem wq_1_26 : (Jvm.Cond.code ({ cls := "FencedLedger", name := "nearest", desc := "(III)I" } : Jvm.MethodName) prog_1_method_21_code (3 : Nat) (Option.some Jvm.ClassFile.FieldType.int)) ∈ fw_ws := List.mem_filter.mpr ⟨fw_in1 (List.mem_of_getElem? (l := tables_1_1) (i := 26) rfl), rfl⟩
theorem wq_1_27 : (Jvm.Cond.methodLink "FencedLedger" (189 : Nat) ({ cls := "java/lang/Math", name := "min", desc := "(II)I" } : Jvm.MethodName)) ∈ fw_ws := List.mem_filter.mpr ⟨fw_in1 (List.mem_of_getElem? (l := tables_1_1) (i := 27) rfl), rfl⟩
theorem wq_1_28 : (Jvm.Cond.static ({ cls := "java/lang/Math", name := "min", desc := "(II)I" } : Jvm.MethodName)) ∈ fw_ws := List.mem_filter.mpr ⟨fw_in1 (List.mem_of_getElem? (l := tables_1_1) (i := 28) rfl), rfl⟩
theorem wq_1_29 : (Jvm.Cond.code ({ cls := "java/lang/Math", name := "min", desc := "(II)I" } : Jvm.MethodName) prog_13_method_69_code (2 : Nat) (Option.some Jvm.ClassFile.FieldType.int)) ∈ fw_ws := List.mem_filter.mpr ⟨fw_in1 (List.mem_of_getElem? (l := tables_1_1) (i := 29) rfl), rfl⟩
theorem wq_1_30 : (Jvm.Cond.methodLink "FencedLedger" (195 : Nat) ({ cls := "java/lang/Math", name := "max", desc := "(II)I" } : Jvm.MethodName)) ∈ fw_ws := List.mem_filter.mpr ⟨fw_in1 (List.mem_of_getElem? (l := tables_1_1) (i := 30) rfl), rfl⟩
theorem wq_1_31 : (Jvm.Cond.static ({ cls := "java/lang/Math", name := "max", desc := "(II)I" } : Jvm.MethodName)) ∈ fw_ws := List.mem_filter.mpr ⟨fw_in1 (List.mem_of_getElem? (l := tables_1_1) (i := 31) rfl), rfl⟩
theorem wq_1_32 : (Jvm.Cond.code ({ cls := "java/lang/Math", name := "max", desc := "(II)I" } : Jvm.MethodName) prog_13_method_65_code (2 : Nat) (Option.some Jvm.ClassFile.FieldType.int)) ∈ fw_ws := List.mem_filter.mpr ⟨fw_in1 (List.mem_of_getElem? (l := tables_1_1) (i := 32) rfl), rfl⟩
theorem wq_1_33 : (Jvm.Cond.classLink "FencedLedger" (23 : Nat) "FencedLedger$Store") ∈ fw_ws := List.mem_filter.mpr ⟨fw_in1 (List.mem_of_getElem? (l := tables_1_1) (i := 33) rfl), rfl⟩
theorem wq_1_35 : (Jvm.Cond.instantiable "FencedLedger$Store" (6 : Nat)) ∈ fw_ws := List.mem_filter.mpr ⟨fw_in1 (List.mem_of_getElem? (l := tables_1_1) (i := 35) rfl), rfl⟩
theorem wq_1_37 : (Jvm.Cond.instanceMethod ({ cls := "FencedLedger$Store", name := "<init>", desc := "()V" } : Jvm.MethodName)) ∈ fw_ws := List.mem_filter.mpr ⟨fw_in1 (List.mem_of_getElem? (l := tables_1_1) (i := 37) rfl), rfl⟩
theorem wq_1_38 : (Jvm.Cond.code ({ cls := "FencedLedger$Store", name := "<init>", desc := "()V" } : Jvm.MethodName) prog_5_method_1_code (1 : Nat) (Option.none : Option Jvm.ClassFile.FieldType)) ∈ fw_ws := List.mem_filter.mpr ⟨fw_in1 (List.mem_of_getElem? (l := tables_1_1) (i := 38) rfl), rfl⟩
theorem wq_1_39 : (Jvm.Cond.methodLink "FencedLedger$Store" (3 : Nat) ({ cls := "java/lang/Object", name := "<init>", desc := "()V" } : Jvm.MethodName)) ∈ fw_ws := List.mem_filter.mpr ⟨fw_in1 (List.mem_of_getElem? (l := tables_1_1) (i := 39) rfl), rfl⟩
theorem wq_1_40 : (Jvm.Cond.fieldLink "FencedLedger$Store" (9 : Nat) "FencedLedger$Store" "kept" "[Z") ∈ fw_ws := List.mem_filter.mpr ⟨fw_in1 (List.mem_of_getElem? (l := tables_1_1) (i := 40) rfl), rfl⟩
theorem wq_1_42 : (Jvm.Cond.fieldLink "FencedLedger$Store" (15 : Nat) "FencedLedger$Store" "values" "[I") ∈ fw_ws := List.mem_filter.mpr ⟨fw_in1 (List.mem_of_getElem? (l := tables_1_1) (i := 42) rfl), rfl⟩
theorem wq_1_44 : (Jvm.Cond.fieldLink "FencedLedger$Store" (19 : Nat) "FencedLedger$Store" "up" "Z") ∈ fw_ws := List.mem_filter.mpr ⟨fw_in1 (List.mem_of_getElem? (l := tables_1_1) (i := 44) rfl), rfl⟩
theorem wq_1_46 : (Jvm.Cond.fieldLink "FencedLedger$Store" (23 : Nat) "FencedLedger$Store" "fenced" "Z") ∈ fw_ws := List.mem_filter.mpr ⟨fw_in1 (List.mem_of_getElem? (l := tables_1_1) (i := 46) rfl), rfl⟩
theorem wq_1_48 : (Jvm.Cond.fieldLink "FencedLedger$Store" (26 : Nat) "FencedLedger$Store" "mark" "I") ∈ fw_ws := List.mem_filter.mpr ⟨fw_in1 (List.mem_of_getElem? (l := tables_1_1) (i := 48) rfl), rfl⟩
theorem wq_1_50 : (Jvm.Cond.fieldLink "FencedLedger$Store" (30 : Nat) "FencedLedger$Store" "keptCount" "I") ∈ fw_ws := List.mem_filter.mpr ⟨fw_in1 (List.mem_of_getElem? (l := tables_1_1) (i := 50) rfl), rfl⟩
theorem wq_1_51 : (Jvm.Cond.laysFinal "FencedLedger$Store" "FencedLedger$Store" "kept" "[Z") ∈ fw_ws := List.mem_filter.mpr ⟨fw_in1 (List.mem_of_getElem? (l := tables_1_1) (i := 51) rfl), rfl⟩
theorem wq_1_53 : (Jvm.Cond.laysFinal "FencedLedger$Store" "FencedLedger$Store" "values" "[I") ∈ fw_ws := List.mem_filter.mpr ⟨fw_in1 (List.mem_of_getElem? (l := tables_1_1) (i := 53) rfl), rfl⟩
theorem wq_1_55 : (Jvm.Cond.lays "FencedLedger$Store" "FencedLedger$Store" "up" "Z") ∈ fw_ws := List.mem_filter.mpr ⟨fw_in1 (List.mem_of_getElem? (l := tables_1_1) (i := 55) rfl), rfl⟩
theorem wq_1_57 : (Jvm.Cond.lays "FencedLedger$Store" "FencedLedger$Store" "fenced" "Z") ∈ fw_ws := List.mem_filter.mpr ⟨fw_in1 (List.mem_of_getElem? (l := tables_1_1) (i := 57) rfl), rfl⟩
theorem wq_1_59 : (Jvm.Cond.lays "FencedLedger$Store" "FencedLedger$Store" "mark" "I") ∈ fw_ws := List.mem_filter.mpr ⟨fw_in1 (List.mem_of_getElem? (l := tables_1_1) (i := 59) rfl), rfl⟩
theorem wq_1_61 : (Jvm.Cond.lays "FencedLedger$Store" "FencedLedger$Store" "keptCount" "I") ∈ fw_ws := List.mem_filter.mpr ⟨fw_in1 (List.mem_of_getElem? (l := tables_1_1) (i := 61) rfl), rfl⟩
theorem wq_1_64 : (Jvm.Cond.arrayClass Jvm.ClassFile.FieldType.boolean) ∈ fw_ws := List.mem_filter.mpr ⟨fw_in1 (List.mem_of_getElem? (l := tables_1_1) (i := 64) rfl), rfl⟩
theorem wq_1_65 : (Jvm.Cond.arrayClass Jvm.ClassFile.FieldType.int) ∈ fw_ws := List.mem_filter.mpr ⟨fw_in1 (List.mem_of_getElem? (l := tables_1_1) (i := 65) rfl), rfl⟩
theorem wq_1_66 : (Jvm.Cond.classLink "FencedLedger" (30 : Nat) "FencedLedger$Channel") ∈ fw_ws := List.mem_filter.mpr ⟨fw_in1 (List.mem_of_getElem? (l := tables_1_1) (i := 66) rfl), rfl⟩
theorem wq_1_67 : (Jvm.Cond.instantiable "FencedLedger$Channel" (3 : Nat)) ∈ fw_ws := List.mem_filter.mpr ⟨fw_in1 (List.mem_of_getElem? (l := tables_1_1) (i := 67) rfl), rfl⟩
theorem wq_1_69 : (Jvm.Cond.instanceMethod ({ cls := "FencedLedger$Channel", name := "<init>", desc := "()V" } : Jvm.MethodName)) ∈ fw_ws := List.mem_filter.mpr ⟨fw_in1 (List.mem_of_getElem? (l := tables_1_1) (i := 69) rfl), rfl⟩
theorem wq_1_70 : (Jvm.Cond.code ({ cls := "FencedLedger$Channel", name := "<init>", desc := "()V" } : Jvm.MethodName) prog_2_method_1_code (2 : Nat) (Option.none : Option Jvm.ClassFile.FieldType)) ∈ fw_ws := List.mem_filter.mpr ⟨fw_in1 (List.mem_of_getElem? (l := tables_1_1) (i := 70) rfl), rfl⟩
theorem wq_1_71 : (Jvm.Cond.methodLink "FencedLedger$Channel" (3 : Nat) ({ cls := "java/lang/Object", name := "<init>", desc := "()V" } : Jvm.MethodName)) ∈ fw_ws := List.mem_filter.mpr ⟨fw_in1 (List.mem_of_getElem? (l := tables_1_1) (i := 71) rfl), rfl⟩
theorem wq_1_72 : (Jvm.Cond.classLink "FencedLedger$Channel" (9 : Nat) "FencedLedger$Message") ∈ fw_ws := List.mem_filter.mpr ⟨fw_in1 (List.mem_of_getElem? (l := tables_1_1) (i := 72) rfl), rfl⟩
theorem wq_1_74 : (Jvm.Cond.instantiable "FencedLedger$Message" (7 : Nat)) ∈ fw_ws := List.mem_filter.mpr ⟨fw_in1 (List.mem_of_getElem? (l := tables_1_1) (i := 74) rfl), rfl⟩
theorem wq_1_76 : (Jvm.Cond.instanceMethod ({ cls := "FencedLedger$Message", name := "<init>", desc := "()V" } : Jvm.MethodName)) ∈ fw_ws := List.mem_filter.mpr ⟨fw_in1 (List.mem_of_getElem? (l := tables_1_1) (i := 76) rfl), rfl⟩
theorem wq_1_77 : (Jvm.Cond.code ({ cls := "FencedLedger$Message", name := "<init>", desc := "()V" } : Jvm.MethodName) prog_3_method_1_code (1 : Nat) (Option.none : Option Jvm.ClassFile.FieldType)) ∈ fw_ws := List.mem_filter.mpr ⟨fw_in1 (List.mem_of_getElem? (l := tables_1_1) (i := 77) rfl), rfl⟩
theorem wq_1_78 : (Jvm.Cond.methodLink "FencedLedger$Message" (3 : Nat) ({ cls := "java/lang/Object", name := "<init>", desc := "()V" } : Jvm.MethodName)) ∈ fw_ws := List.mem_filter.mpr ⟨fw_in1 (List.mem_of_getElem? (l := tables_1_1) (i := 78) rfl), rfl⟩
theorem wq_1_79 : (Jvm.Cond.fieldLink "FencedLedger$Message" (9 : Nat) "FencedLedger$Message" "kind" "I") ∈ fw_ws := List.mem_filter.mpr ⟨fw_in1 (List.mem_of_getElem? (l := tables_1_1) (i := 79) rfl), rfl⟩
theorem wq_1_83 : (Jvm.Cond.fieldLink "FencedLedger$Message" (15 : Nat) "FencedLedger$Message" "client" "I") ∈ fw_ws := List.mem_filter.mpr ⟨fw_in1 (List.mem_of_getElem? (l := tables_1_1) (i := 83) rfl), rfl⟩
theorem wq_1_86 : (Jvm.Cond.fieldLink "FencedLedger$Message" (18 : Nat) "FencedLedger$Message" "store" "I") ∈ fw_ws := List.mem_filter.mpr ⟨fw_in1 (List.mem_of_getElem? (l := tables_1_1) (i := 86) rfl), rfl⟩
theorem wq_1_90 : (Jvm.Cond.fieldLink "FencedLedger$Message" (21 : Nat) "FencedLedger$Message" "entry" "I") ∈ fw_ws := List.mem_filter.mpr ⟨fw_in1 (List.mem_of_getElem? (l := tables_1_1) (i := 90) rfl), rfl⟩
theorem wq_1_94 : (Jvm.Cond.fieldLink "FencedLedger$Message" (24 : Nat) "FencedLedger$Message" "value" "I") ∈ fw_ws := List.mem_filter.mpr ⟨fw_in1 (List.mem_of_getElem? (l := tables_1_1) (i := 94) rfl), rfl⟩
theorem wq_1_97 : (Jvm.Cond.fieldLink "FencedLedger$Message" (27 : Nat) "FencedLedger$Message" "term" "I") ∈ fw_ws := List.mem_filter.mpr ⟨fw_in1 (List.mem_of_getElem? (l := tables_1_1) (i := 97) rfl), rfl⟩
theorem wq_1_100 : (Jvm.Cond.fieldLink "FencedLedger$Message" (30 : Nat) "FencedLedger$Message" "mark" "I") ∈ fw_ws := List.mem_filter.mpr ⟨fw_in1 (List.mem_of_getElem? (l := tables_1_1) (i := 100) rfl), rfl⟩
theorem wq_1_103 : (Jvm.Cond.lays "FencedLedger$Message" "FencedLedger$Message" "kind" "I") ∈ fw_ws := List.mem_filter.mpr ⟨fw_in1 (List.mem_of_getElem? (l := tables_1_1) (i := 103) rfl), rfl⟩
theorem wq_1_105 : (Jvm.Cond.lays "FencedLedger$Message" "FencedLedger$Message" "client" "I") ∈ fw_ws := List.mem_filter.mpr ⟨fw_in1 (List.mem_of_getElem? (l := tables_1_1) (i := 105) rfl), rfl⟩
theorem wq_1_107 : (Jvm.Cond.lays "FencedLedger$Message" "FencedLedger$Message" "store" "I") ∈ fw_ws := List.mem_filter.mpr ⟨fw_in1 (List.mem_of_getElem? (l := tables_1_1) (i := 107) rfl), rfl⟩
theorem wq_1_109 : (Jvm.Cond.lays "FencedLedger$Message" "FencedLedger$Message" "entry" "I") ∈ fw_ws := List.mem_filter.mpr ⟨fw_in1 (List.mem_of_getElem? (l := tables_1_1) (i := 109) rfl), rfl⟩
theorem wq_1_111 : (Jvm.Cond.lays "FencedLedger$Message" "FencedLedger$Message" "value" "I") ∈ fw_ws := List.mem_filter.mpr ⟨fw_in1 (List.mem_of_getElem? (l := tables_1_1) (i := 111) rfl), rfl⟩
theorem wq_1_113 : (Jvm.Cond.lays "FencedLedger$Message" "FencedLedger$Message" "term" "I") ∈ fw_ws := List.mem_filter.mpr ⟨fw_in1 (List.mem_of_getElem? (l := tables_1_1) (i := 113) rfl), rfl⟩
theorem wq_1_115 : (Jvm.Cond.lays "FencedLedger$Message" "FencedLedger$Message" "mark" "I") ∈ fw_ws := List.mem_filter.mpr ⟨fw_in1 (List.mem_of_getElem? (l := tables_1_1) (i := 115) rfl), rfl⟩
theorem wq_1_118 : (Jvm.Cond.fieldLink "FencedLedger$Channel" (11 : Nat) "FencedLedger$Channel" "rows" "[LFencedLedger$Message;") ∈ fw_ws := List.mem_filter.mpr ⟨fw_in1 (List.mem_of_getElem? (l := tables_1_1) (i := 118) rfl), rfl⟩
theorem wq_1_120 : (Jvm.Cond.fieldLink "FencedLedger$Channel" (18 : Nat) "FencedLedger$Channel" "taken" "LFencedLedger$Message;") ∈ fw_ws := List.mem_filter.mpr ⟨fw_in1 (List.mem_of_getElem? (l := tables_1_1) (i := 120) rfl), rfl⟩
theorem wq_1_121 : (Jvm.Cond.fieldLink "FencedLedger$Channel" (22 : Nat) "FencedLedger$Channel" "count" "I") ∈ fw_ws := List.mem_filter.mpr ⟨fw_in1 (List.mem_of_getElem? (l := tables_1_1) (i := 121) rfl), rfl⟩
theorem wq_1_123 : (Jvm.Cond.laysFinal "FencedLedger$Channel" "FencedLedger$Channel" "rows" "[LFencedLedger$Message;") ∈ fw_ws := List.mem_filter.mpr ⟨fw_in1 (List.mem_of_getElem? (l := tables_1_1) (i := 123) rfl), rfl⟩
theorem wq_1_125 : (Jvm.Cond.lays "FencedLedger$Channel" "FencedLedger$Channel" "taken" "LFencedLedger$Message;") ∈ fw_ws := List.mem_filter.mpr ⟨fw_in1 (List.mem_of_getElem? (l := tables_1_1) (i := 125) rfl), rfl⟩
theorem wq_1_127 : (Jvm.Cond.lays "FencedLedger$Channel" "FencedLedger$Channel" "count" "I") ∈ fw_ws := List.mem_filter.mpr ⟨fw_in1 (List.mem_of_getElem? (l := tables_1_1) (i := 127) rfl), rfl⟩
theorem wq_1_130 : (Jvm.Cond.classLink "FencedLedger" (37 : Nat) "FencedLedger$Writer") ∈ fw_ws := List.mem_filter.mpr ⟨fw_in1 (List.mem_of_getElem? (l := tables_1_1) (i := 130) rfl), rfl⟩
theorem wq_1_131 : (Jvm.Cond.instantiable "FencedLedger$Writer" (5 : Nat)) ∈ fw_ws := List.mem_filter.mpr ⟨fw_in1 (List.mem_of_getElem? (l := tables_1_1) (i := 131) rfl), rfl⟩
theorem wq_1_133 : (Jvm.Cond.instanceMethod ({ cls := "FencedLedger$Writer", name := "<init>", desc := "()V" } : Jvm.MethodName)) ∈ fw_ws := List.mem_filter.mpr ⟨fw_in1 (List.mem_of_getElem? (l := tables_1_1) (i := 133) rfl), rfl⟩
theorem wq_1_134 : (Jvm.Cond.code ({ cls := "FencedLedger$Writer", name := "<init>", desc := "()V" } : Jvm.MethodName) prog_6_method_1_code (1 : Nat) (Option.none : Option Jvm.ClassFile.FieldType)) ∈ fw_ws := List.mem_filter.mpr ⟨fw_in1 (List.mem_of_getElem? (l := tables_1_1) (i := 134) rfl), rfl⟩
theorem wq_1_135 : (Jvm.Cond.methodLink "FencedLedger$Writer" (3 : Nat) ({ cls := "java/lang/Object", name := "<init>", desc := "()V" } : Jvm.MethodName)) ∈ fw_ws := List.mem_filter.mpr ⟨fw_in1 (List.mem_of_getElem? (l := tables_1_1) (i := 135) rfl), rfl⟩
theorem wq_1_136 : (Jvm.Cond.fieldLink "FencedLedger$Writer" (9 : Nat) "FencedLedger$Writer" "values" "[I") ∈ fw_ws := List.mem_filter.mpr ⟨fw_in1 (List.mem_of_getElem? (l := tables_1_1) (i := 136) rfl), rfl⟩
theorem wq_1_138 : (Jvm.Cond.fieldLink "FencedLedger$Writer" (15 : Nat) "FencedLedger$Writer" "answered" "[I") ∈ fw_ws := List.mem_filter.mpr ⟨fw_in1 (List.mem_of_getElem? (l := tables_1_1) (i := 138) rfl), rfl⟩
theorem wq_1_140 : (Jvm.Cond.fieldLink "FencedLedger$Writer" (18 : Nat) "FencedLedger$Writer" "state" "I") ∈ fw_ws := List.mem_filter.mpr ⟨fw_in1 (List.mem_of_getElem? (l := tables_1_1) (i := 140) rfl), rfl⟩
theorem wq_1_142 : (Jvm.Cond.fieldLink "FencedLedger$Writer" (22 : Nat) "FencedLedger$Writer" "entryCount" "I") ∈ fw_ws := List.mem_filter.mpr ⟨fw_in1 (List.mem_of_getElem? (l := tables_1_1) (i := 142) rfl), rfl⟩
theorem wq_1_144 : (Jvm.Cond.fieldLink "FencedLedger$Writer" (25 : Nat) "FencedLedger$Writer" "lac" "I") ∈ fw_ws := List.mem_filter.mpr ⟨fw_in1 (List.mem_of_getElem? (l := tables_1_1) (i := 144) rfl), rfl⟩
theorem wq_1_146 : (Jvm.Cond.laysFinal "FencedLedger$Writer" "FencedLedger$Writer" "values" "[I") ∈ fw_ws := List.mem_filter.mpr ⟨fw_in1 (List.mem_of_getElem? (l := tables_1_1) (i := 146) rfl), rfl⟩
theorem wq_1_148 : (Jvm.Cond.laysFinal "FencedLedger$Writer" "FencedLedger$Writer" "answered" "[I") ∈ fw_ws := List.mem_filter.mpr ⟨fw_in1 (List.mem_of_getElem? (l := tables_1_1) (i := 148) rfl), rfl⟩
theorem wq_1_150 : (Jvm.Cond.lays "FencedLedger$Writer" "FencedLedger$Writer" "state" "I") ∈ fw_ws := List.mem_filter.mpr ⟨fw_in1 (List.mem_of_getElem? (l := tables_1_1) (i := 150) rfl), rfl⟩
theorem wq_1_152 : (Jvm.Cond.lays "FencedLedger$Writer" "FencedLedger$Writer" "entryCount" "I") ∈ fw_ws := List.mem_filter.mpr ⟨fw_in1 (List.mem_of_getElem? (l := tables_1_1) (i := 152) rfl), rfl⟩
theorem wq_1_154 : (Jvm.Cond.lays "FencedLedger$Writer" "FencedLedger$Writer" "lac" "I") ∈ fw_ws := List.mem_filter.mpr ⟨fw_in1 (List.mem_of_getElem? (l := tables_1_1) (i := 154) rfl), rfl⟩
theorem wq_1_157 : (Jvm.Cond.classLink "FencedLedger" (44 : Nat) "FencedLedger$Recoverer") ∈ fw_ws := List.mem_filter.mpr ⟨fw_in1 (List.mem_of_getElem? (l := tables_1_1) (i := 157) rfl), rfl⟩
theorem wq_1_159 : (Jvm.Cond.instantiable "FencedLedger$Recoverer" (7 : Nat)) ∈ fw_ws := List.mem_filter.mpr ⟨fw_in1 (List.mem_of_getElem? (l := tables_1_1) (i := 159) rfl), rfl⟩
theorem wq_1_161 : (Jvm.Cond.instanceMethod ({ cls := "FencedLedger$Recoverer", name := "<init>", desc := "(I)V" } : Jvm.MethodName)) ∈ fw_ws := List.mem_filter.mpr ⟨fw_in1 (List.mem_of_getElem? (l := tables_1_1) (i := 161) rfl), rfl⟩
theorem wq_1_162 : (Jvm.Cond.code ({ cls := "FencedLedger$Recoverer", name := "<init>", desc := "(I)V" } : Jvm.MethodName) prog_4_method_1_code (2 : Nat) (Option.none : Option Jvm.ClassFile.FieldType)) ∈ fw_ws := List.mem_filter.mpr ⟨fw_in1 (List.mem_of_getElem? (l := tables_1_1) (i := 162) rfl), rfl⟩
theorem wq_1_163 : (Jvm.Cond.methodLink "FencedLedger$Recoverer" (3 : Nat) ({ cls := "java/lang/Object", name := "<init>", desc := "()V" } : Jvm.MethodName)) ∈ fw_ws := List.mem_filter.mpr ⟨fw_in1 (List.mem_of_getElem? (l := tables_1_1) (i := 163) rfl), rfl⟩
theorem wq_1_164 : (Jvm.Cond.fieldLink "FencedLedger$Recoverer" (30 : Nat) "FencedLedger$Recoverer" "client" "I") ∈ fw_ws := List.mem_filter.mpr ⟨fw_in1 (List.mem_of_getElem? (l := tables_1_1) (i := 164) rfl), rfl⟩
theorem wq_1_166 : (Jvm.Cond.fieldLink "FencedLedger$Recoverer" (9 : Nat) "FencedLedger$Recoverer" "state" "I") ∈ fw_ws := List.mem_filter.mpr ⟨fw_in1 (List.mem_of_getElem? (l := tables_1_1) (i := 166) rfl), rfl⟩
theorem wq_1_168 : (Jvm.Cond.fieldLink "FencedLedger$Recoverer" (15 : Nat) "FencedLedger$Recoverer" "term" "I") ∈ fw_ws := List.mem_filter.mpr ⟨fw_in1 (List.mem_of_getElem? (l := tables_1_1) (i := 168) rfl), rfl⟩
theorem wq_1_170 : (Jvm.Cond.fieldLink "FencedLedger$Recoverer" (18 : Nat) "FencedLedger$Recoverer" "entry" "I") ∈ fw_ws := List.mem_filter.mpr ⟨fw_in1 (List.mem_of_getElem? (l := tables_1_1) (i := 170) rfl), rfl⟩
theorem wq_1_172 : (Jvm.Cond.fieldLink "FencedLedger$Recoverer" (21 : Nat) "FencedLedger$Recoverer" "answered" "I") ∈ fw_ws := List.mem_filter.mpr ⟨fw_in1 (List.mem_of_getElem? (l := tables_1_1) (i := 172) rfl), rfl⟩
theorem wq_1_174 : (Jvm.Cond.fieldLink "FencedLedger$Recoverer" (24 : Nat) "FencedLedger$Recoverer" "highestMark" "I") ∈ fw_ws := List.mem_filter.mpr ⟨fw_in1 (List.mem_of_getElem? (l := tables_1_1) (i := 174) rfl), rfl⟩
theorem wq_1_176 : (Jvm.Cond.fieldLink "FencedLedger$Recoverer" (27 : Nat) "FencedLedger$Recoverer" "value" "I") ∈ fw_ws := List.mem_filter.mpr ⟨fw_in1 (List.mem_of_getElem? (l := tables_1_1) (i := 176) rfl), rfl⟩
theorem wq_1_178 : (Jvm.Cond.laysFinal "FencedLedger$Recoverer" "FencedLedger$Recoverer" "client" "I") ∈ fw_ws := List.mem_filter.mpr ⟨fw_in1 (List.mem_of_getElem? (l := tables_1_1) (i := 178) rfl), rfl⟩
theorem wq_1_180 : (Jvm.Cond.lays "FencedLedger$Recoverer" "FencedLedger$Recoverer" "state" "I") ∈ fw_ws := List.mem_filter.mpr ⟨fw_in1 (List.mem_of_getElem? (l := tables_1_1) (i := 180) rfl), rfl⟩
theorem wq_1_182 : (Jvm.Cond.lays "FencedLedger$Recoverer" "FencedLedger$Recoverer" "term" "I") ∈ fw_ws := List.mem_filter.mpr ⟨fw_in1 (List.mem_of_getElem? (l := tables_1_1) (i := 182) rfl), rfl⟩
theorem wq_1_184 : (Jvm.Cond.lays "FencedLedger$Recoverer" "FencedLedger$Recoverer" "entry" "I") ∈ fw_ws := List.mem_filter.mpr ⟨fw_in1 (List.mem_of_getElem? (l := tables_1_1) (i := 184) rfl), rfl⟩
theorem wq_1_186 : (Jvm.Cond.lays "FencedLedger$Recoverer" "FencedLedger$Recoverer" "answered" "I") ∈ fw_ws := List.mem_filter.mpr ⟨fw_in1 (List.mem_of_getElem? (l := tables_1_1) (i := 186) rfl), rfl⟩
theorem wq_1_188 : (Jvm.Cond.lays "FencedLedger$Recoverer" "FencedLedger$Recoverer" "highestMark" "I") ∈ fw_ws := List.mem_filter.mpr ⟨fw_in1 (List.mem_of_getElem? (l := tables_1_1) (i := 188) rfl), rfl⟩
theorem wq_1_190 : (Jvm.Cond.lays "FencedLedger$Recoverer" "FencedLedger$Recoverer" "value" "I") ∈ fw_ws := List.mem_filter.mpr ⟨fw_in1 (List.mem_of_getElem? (l := tables_1_1) (i := 190) rfl), rfl⟩
theorem wq_1_193 : (Jvm.Cond.fieldLink "FencedLedger" (13 : Nat) "FencedLedger" "storeCount" "I") ∈ fw_ws := List.mem_filter.mpr ⟨fw_in1 (List.mem_of_getElem? (l := tables_1_1) (i := 193) rfl), rfl⟩
theorem wq_1_194 : (Jvm.Cond.fieldLink "FencedLedger" (17 : Nat) "FencedLedger" "setSize" "I") ∈ fw_ws := List.mem_filter.mpr ⟨fw_in1 (List.mem_of_getElem? (l := tables_1_1) (i := 194) rfl), rfl⟩
theorem wq_1_195 : (Jvm.Cond.fieldLink "FencedLedger" (20 : Nat) "FencedLedger" "quorum" "I") ∈ fw_ws := List.mem_filter.mpr ⟨fw_in1 (List.mem_of_getElem? (l := tables_1_1) (i := 195) rfl), rfl⟩
theorem wq_1_196 : (Jvm.Cond.fieldLink "FencedLedger" (25 : Nat) "FencedLedger" "stores" "[LFencedLedger$Store;") ∈ fw_ws := List.mem_filter.mpr ⟨fw_in1 (List.mem_of_getElem? (l := tables_1_1) (i := 196) rfl), rfl⟩
theorem wq_1_197 : (Jvm.Cond.fieldLink "FencedLedger" (33 : Nat) "FencedLedger" "channel" "LFencedLedger$Channel;") ∈ fw_ws := List.mem_filter.mpr ⟨fw_in1 (List.mem_of_getElem? (l := tables_1_1) (i := 197) rfl), rfl⟩
theorem wq_1_198 : (Jvm.Cond.fieldLink "FencedLedger" (40 : Nat) "FencedLedger" "theWriter" "LFencedLedger$Writer;") ∈ fw_ws := List.mem_filter.mpr ⟨fw_in1 (List.mem_of_getElem? (l := tables_1_1) (i := 198) rfl), rfl⟩
theorem wq_1_199 : (Jvm.Cond.fieldLink "FencedLedger" (46 : Nat) "FencedLedger" "recoverers" "[LFencedLedger$Recoverer;") ∈ fw_ws := List.mem_filter.mpr ⟨fw_in1 (List.mem_of_getElem? (l := tables_1_1) (i := 199) rfl), rfl⟩
theorem wq_1_200 : (Jvm.Cond.fieldLink "FencedLedger" (53 : Nat) "FencedLedger" "ledgerState" "I") ∈ fw_ws := List.mem_filter.mpr ⟨fw_in1 (List.mem_of_getElem? (l := tables_1_1) (i := 200) rfl), rfl⟩
theorem wq_1_201 : (Jvm.Cond.fieldLink "FencedLedger" (56 : Nat) "FencedLedger" "ledgerVersion" "I") ∈ fw_ws := List.mem_filter.mpr ⟨fw_in1 (List.mem_of_getElem? (l := tables_1_1) (i := 201) rfl), rfl⟩
theorem wq_1_202 : (Jvm.Cond.fieldLink "FencedLedger" (59 : Nat) "FencedLedger" "ledgerLast" "I") ∈ fw_ws := List.mem_filter.mpr ⟨fw_in1 (List.mem_of_getElem? (l := tables_1_1) (i := 202) rfl), rfl⟩
theorem wq_1_203 : (Jvm.Cond.laysFinal "FencedLedger" "FencedLedger" "storeCount" "I") ∈ fw_ws := List.mem_filter.mpr ⟨fw_in1 (List.mem_of_getElem? (l := tables_1_1) (i := 203) rfl), rfl⟩
theorem wq_1_205 : (Jvm.Cond.laysFinal "FencedLedger" "FencedLedger" "setSize" "I") ∈ fw_ws := List.mem_filter.mpr ⟨fw_in1 (List.mem_of_getElem? (l := tables_1_1) (i := 205) rfl), rfl⟩
theorem wq_1_207 : (Jvm.Cond.laysFinal "FencedLedger" "FencedLedger" "quorum" "I") ∈ fw_ws := List.mem_filter.mpr ⟨fw_in1 (List.mem_of_getElem? (l := tables_1_1) (i := 207) rfl), rfl⟩
theorem wq_1_209 : (Jvm.Cond.laysFinal "FencedLedger" "FencedLedger" "stores" "[LFencedLedger$Store;") ∈ fw_ws := List.mem_filter.mpr ⟨fw_in1 (List.mem_of_getElem? (l := tables_1_1) (i := 209) rfl), rfl⟩
theorem wq_1_211 : (Jvm.Cond.laysFinal "FencedLedger" "FencedLedger" "channel" "LFencedLedger$Channel;") ∈ fw_ws := List.mem_filter.mpr ⟨fw_in1 (List.mem_of_getElem? (l := tables_1_1) (i := 211) rfl), rfl⟩
theorem wq_1_213 : (Jvm.Cond.laysFinal "FencedLedger" "FencedLedger" "theWriter" "LFencedLedger$Writer;") ∈ fw_ws := List.mem_filter.mpr ⟨fw_in1 (List.mem_of_getElem? (l := tables_1_1) (i := 213) rfl), rfl⟩
theorem wq_1_215 : (Jvm.Cond.laysFinal "FencedLedger" "FencedLedger" "recoverers" "[LFencedLedger$Recoverer;") ∈ fw_ws := List.mem_filter.mpr ⟨fw_in1 (List.mem_of_getElem? (l := tables_1_1) (i := 215) rfl), rfl⟩
theorem wq_1_217 : (Jvm.Cond.lays "FencedLedger" "FencedLedger" "ledgerState" "I") ∈ fw_ws := List.mem_filter.mpr ⟨fw_in1 (List.mem_of_getElem? (l := tables_1_1) (i := 217) rfl), rfl⟩
theorem wq_1_219 : (Jvm.Cond.lays "FencedLedger" "FencedLedger" "ledgerVersion" "I") ∈ fw_ws := List.mem_filter.mpr ⟨fw_in1 (List.mem_of_getElem? (l := tables_1_1) (i := 219) rfl), rfl⟩
theorem wq_1_221 : (Jvm.Cond.lays "FencedLedger" "FencedLedger" "ledgerLast" "I") ∈ fw_ws := List.mem_filter.mpr ⟨fw_in1 (List.mem_of_getElem? (l := tables_1_1) (i := 221) rfl), rfl⟩
theorem wq_1_230 : (Jvm.Cond.instanceMethod ({ cls := "FencedLedger$Writer", name := "knows", desc := "(I)Z" } : Jvm.MethodName)) ∈ fw_ws := List.mem_filter.mpr ⟨fw_in1 (List.mem_of_getElem? (l := tables_1_1) (i := 230) rfl), rfl⟩
theorem wq_1_231 : (Jvm.Cond.code ({ cls := "FencedLedger$Writer", name := "knows", desc := "(I)Z" } : Jvm.MethodName) prog_6_method_3_code (2 : Nat) (Option.some Jvm.ClassFile.FieldType.boolean)) ∈ fw_ws := List.mem_filter.mpr ⟨fw_in1 (List.mem_of_getElem? (l := tables_1_1) (i := 231) rfl), rfl⟩
theorem wq_1_234 : (Jvm.Cond.instanceMethod ({ cls := "FencedLedger$Writer", name := "countAnswers", desc := "(I)I" } : Jvm.MethodName)) ∈ fw_ws := List.mem_filter.mpr ⟨fw_in1 (List.mem_of_getElem? (l := tables_1_1) (i := 234) rfl), rfl⟩
theorem wq_1_235 : (Jvm.Cond.code ({ cls := "FencedLedger$Writer", name := "countAnswers", desc := "(I)I" } : Jvm.MethodName) prog_6_method_5_code (2 : Nat) (Option.some Jvm.ClassFile.FieldType.int)) ∈ fw_ws := List.mem_filter.mpr ⟨fw_in1 (List.mem_of_getElem? (l := tables_1_1) (i := 235) rfl), rfl⟩
theorem wq_1_236 : (Jvm.Cond.methodLink "FencedLedger$Writer" (28 : Nat) ({ cls := "java/lang/Integer", name := "bitCount", desc := "(I)I" } : Jvm.MethodName)) ∈ fw_ws := List.mem_filter.mpr ⟨fw_in1 (List.mem_of_getElem? (l := tables_1_1) (i := 236) rfl), rfl⟩
theorem wq_1_237 : (Jvm.Cond.static ({ cls := "java/lang/Integer", name := "bitCount", desc := "(I)I" } : Jvm.MethodName)) ∈ fw_ws := List.mem_filter.mpr ⟨fw_in1 (List.mem_of_getElem? (l := tables_1_1) (i := 237) rfl), rfl⟩
theorem wq_1_238 : (Jvm.Cond.code ({ cls := "java/lang/Integer", name := "bitCount", desc := "(I)I" } : Jvm.MethodName) prog_12_method_49_code (1 : Nat) (Option.some Jvm.ClassFile.FieldType.int)) ∈ fw_ws := List.mem_filter.mpr ⟨fw_in1 (List.mem_of_getElem? (l := tables_1_1) (i := 238) rfl), rfl⟩
theorem wq_1_239 : (Jvm.Cond.constant "java/lang/Integer" (265 : Nat) (1431655765 : Int32)) ∈ fw_ws := List.mem_filter.mpr ⟨fw_in1 (List.mem_of_getElem? (l := tables_1_1) (i := 239) rfl), rfl⟩
theorem wq_2_0 : (Jvm.Cond.constant "java/lang/Integer" (266 : Nat) (858993459 : Int32)) ∈ fw_ws := List.mem_filter.mpr ⟨fw_in2 (List.mem_of_getElem? (l := tables_1_2) (i := 0) rfl), rfl⟩
theorem wq_2_1 : (Jvm.Cond.constant "java/lang/Integer" (267 : Nat) (252645135 : Int32)) ∈ fw_ws := List.mem_filter.mpr ⟨fw_in2 (List.mem_of_getElem? (l := tables_1_2) (i := 1) rfl), rfl⟩
theorem wq_2_2 : (Jvm.Cond.methodLink "FencedLedger" (85 : Nat) ({ cls := "FencedLedger", name := "sendWritersAdd", desc := "(I)I" } : Jvm.MethodName)) ∈ fw_ws := List.mem_filter.mpr ⟨fw_in2 (List.mem_of_getElem? (l := tables_1_2) (i := 2) rfl), rfl⟩
theorem wq_2_4 : (Jvm.Cond.instanceMethod ({ cls := "FencedLedger", name := "sendWritersAdd", desc := "(I)I" } : Jvm.MethodName)) ∈ fw_ws := List.mem_filter.mpr ⟨fw_in2 (List.mem_of_getElem? (l := tables_1_2) (i := 4) rfl), rfl⟩
theorem wq_2_5 : (Jvm.Cond.code ({ cls := "FencedLedger", name := "sendWritersAdd", desc := "(I)I" } : Jvm.MethodName) prog_1_method_28_code (3 : Nat) (Option.some Jvm.ClassFile.FieldType.int)) ∈ fw_ws := List.mem_filter.mpr ⟨fw_in2 (List.mem_of_getElem? (l := tables_1_2) (i := 5) rfl), rfl⟩
theorem wq_2_6 : (Jvm.Cond.methodLink "FencedLedger" (205 : Nat) ({ cls := "FencedLedger", name := "sendToSet", desc := "(IIIIIII)I" } : Jvm.MethodName)) ∈ fw_ws := List.mem_filter.mpr ⟨fw_in2 (List.mem_of_getElem? (l := tables_1_2) (i := 6) rfl), rfl⟩
theorem wq_2_8 : (Jvm.Cond.instanceMethod ({ cls := "FencedLedger", name := "sendToSet", desc := "(IIIIIII)I" } : Jvm.MethodName)) ∈ fw_ws := List.mem_filter.mpr ⟨fw_in2 (List.mem_of_getElem? (l := tables_1_2) (i := 8) rfl), rfl⟩
theorem wq_2_9 : (Jvm.Cond.code ({ cls := "FencedLedger", name := "sendToSet", desc := "(IIIIIII)I" } : Jvm.MethodName) prog_1_method_29_code (11 : Nat) (Option.some Jvm.ClassFile.FieldType.int)) ∈ fw_ws := List.mem_filter.mpr ⟨fw_in2 (List.mem_of_getElem? (l := tables_1_2) (i := 9) rfl), rfl⟩
theorem wq_2_10 : (Jvm.Cond.methodLink "FencedLedger" (198 : Nat) ({ cls := "FencedLedger", name := "setMember", desc := "(II)I" } : Jvm.MethodName)) ∈ fw_ws := List.mem_filter.mpr ⟨fw_in2 (List.mem_of_getElem? (l := tables_1_2) (i := 10) rfl), rfl⟩
theorem wq_2_12 : (Jvm.Cond.instanceMethod ({ cls := "FencedLedger", name := "setMember", desc := "(II)I" } : Jvm.MethodName)) ∈ fw_ws := List.mem_filter.mpr ⟨fw_in2 (List.mem_of_getElem? (l := tables_1_2) (i := 12) rfl), rfl⟩
theorem wq_2_13 : (Jvm.Cond.code ({ cls := "FencedLedger", name := "setMember", desc := "(II)I" } : Jvm.MethodName) prog_1_method_25_code (3 : Nat) (Option.some Jvm.ClassFile.FieldType.int)) ∈ fw_ws := List.mem_filter.mpr ⟨fw_in2 (List.mem_of_getElem? (l := tables_1_2) (i := 13) rfl), rfl⟩
theorem wq_2_16 : (Jvm.Cond.instanceMethod ({ cls := "FencedLedger$Channel", name := "send", desc := "(IIIIIII)V" } : Jvm.MethodName)) ∈ fw_ws := List.mem_filter.mpr ⟨fw_in2 (List.mem_of_getElem? (l := tables_1_2) (i := 16) rfl), rfl⟩
theorem wq_2_17 : (Jvm.Cond.code ({ cls := "FencedLedger$Channel", name := "send", desc := "(IIIIIII)V" } : Jvm.MethodName) prog_2_method_3_code (9 : Nat) (Option.none : Option Jvm.ClassFile.FieldType)) ∈ fw_ws := List.mem_filter.mpr ⟨fw_in2 (List.mem_of_getElem? (l := tables_1_2) (i := 17) rfl), rfl⟩
theorem wq_2_22 : (Jvm.Cond.methodLink "FencedLedger" (98 : Nat) ({ cls := "FencedLedger", name := "shutLedger", desc := "(I)V" } : Jvm.MethodName)) ∈ fw_ws := List.mem_filter.mpr ⟨fw_in2 (List.mem_of_getElem? (l := tables_1_2) (i := 22) rfl), rfl⟩
theorem wq_2_24 : (Jvm.Cond.instanceMethod ({ cls := "FencedLedger", name := "shutLedger", desc := "(I)V" } : Jvm.MethodName)) ∈ fw_ws := List.mem_filter.mpr ⟨fw_in2 (List.mem_of_getElem? (l := tables_1_2) (i := 24) rfl), rfl⟩
theorem wq_2_25 : (Jvm.Cond.code ({ cls := "FencedLedger", name := "shutLedger", desc := "(I)V" } : Jvm.MethodName) prog_1_method_27_code (2 : Nat) (Option.none : Option Jvm.ClassFile.FieldType)) ∈ fw_ws := List.mem_filter.mpr ⟨fw_in2 (List.mem_of_getElem? (l := tables_1_2) (i := 25) rfl), rfl⟩
theorem wq_2_42 : (Jvm.Cond.methodLink "FencedLedger" (104 : Nat) ({ cls := "FencedLedger", name := "isRecoverer", desc := "(I)Z" } : Jvm.MethodName)) ∈ fw_ws := List.mem_filter.mpr ⟨fw_in2 (List.mem_of_getElem? (l := tables_1_2) (i := 42) rfl), rfl⟩
theorem wq_2_43 : (Jvm.Cond.static ({ cls := "FencedLedger", name := "isRecoverer", desc := "(I)Z" } : Jvm.MethodName)) ∈ fw_ws := List.mem_filter.mpr ⟨fw_in2 (List.mem_of_getElem? (l := tables_1_2) (i := 43) rfl), rfl⟩
theorem wq_2_44 : (Jvm.Cond.code ({ cls := "FencedLedger", name := "isRecoverer", desc := "(I)Z" } : Jvm.MethodName) prog_1_method_23_code (1 : Nat) (Option.some Jvm.ClassFile.FieldType.boolean)) ∈ fw_ws := List.mem_filter.mpr ⟨fw_in2 (List.mem_of_getElem? (l := tables_1_2) (i := 44) rfl), rfl⟩
theorem wq_2_47 : (Jvm.Cond.instanceMethod ({ cls := "FencedLedger$Recoverer", name := "beginFencing", desc := "(I)V" } : Jvm.MethodName)) ∈ fw_ws := List.mem_filter.mpr ⟨fw_in2 (List.mem_of_getElem? (l := tables_1_2) (i := 47) rfl), rfl⟩
theorem wq_2_48 : (Jvm.Cond.code ({ cls := "FencedLedger$Recoverer", name := "beginFencing", desc := "(I)V" } : Jvm.MethodName) prog_4_method_4_code (2 : Nat) (Option.none : Option Jvm.ClassFile.FieldType)) ∈ fw_ws := List.mem_filter.mpr ⟨fw_in2 (List.mem_of_getElem? (l := tables_1_2) (i := 48) rfl), rfl⟩
theorem wq_2_49 : (Jvm.Cond.methodLink "FencedLedger" (111 : Nat) ({ cls := "FencedLedger", name := "sendStep", desc := "(LFencedLedger$Recoverer;)I" } : Jvm.MethodName)) ∈ fw_ws := List.mem_filter.mpr ⟨fw_in2 (List.mem_of_getElem? (l := tables_1_2) (i := 49) rfl), rfl⟩
theorem wq_2_51 : (Jvm.Cond.instanceMethod ({ cls := "FencedLedger", name := "sendStep", desc := "(LFencedLedger$Recoverer;)I" } : Jvm.MethodName)) ∈ fw_ws := List.mem_filter.mpr ⟨fw_in2 (List.mem_of_getElem? (l := tables_1_2) (i := 51) rfl), rfl⟩
theorem wq_2_52 : (Jvm.Cond.code ({ cls := "FencedLedger", name := "sendStep", desc := "(LFencedLedger$Recoverer;)I" } : Jvm.MethodName) prog_1_method_31_code (2 : Nat) (Option.some Jvm.ClassFile.FieldType.int)) ∈ fw_ws := List.mem_filter.mpr ⟨fw_in2 (List.mem_of_getElem? (l := tables_1_2) (i := 52) rfl), rfl⟩
theorem wq_2_53 : (Jvm.Cond.methodLink "FencedLedger" (219 : Nat) ({ cls := "FencedLedger", name := "sendFences", desc := "(LFencedLedger$Recoverer;)I" } : Jvm.MethodName)) ∈ fw_ws := List.mem_filter.mpr ⟨fw_in2 (List.mem_of_getElem? (l := tables_1_2) (i := 53) rfl), rfl⟩
theorem wq_2_55 : (Jvm.Cond.instanceMethod ({ cls := "FencedLedger", name := "sendFences", desc := "(LFencedLedger$Recoverer;)I" } : Jvm.MethodName)) ∈ fw_ws := List.mem_filter.mpr ⟨fw_in2 (List.mem_of_getElem? (l := tables_1_2) (i := 55) rfl), rfl⟩
theorem wq_2_56 : (Jvm.Cond.code ({ cls := "FencedLedger", name := "sendFences", desc := "(LFencedLedger$Recoverer;)I" } : Jvm.MethodName) prog_1_method_30_code (4 : Nat) (Option.some Jvm.ClassFile.FieldType.int)) ∈ fw_ws := List.mem_filter.mpr ⟨fw_in2 (List.mem_of_getElem? (l := tables_1_2) (i := 56) rfl), rfl⟩
theorem wq_2_63 : (Jvm.Cond.instanceMethod ({ cls := "FencedLedger$Recoverer", name := "isBusy", desc := "()Z" } : Jvm.MethodName)) ∈ fw_ws := List.mem_filter.mpr ⟨fw_in2 (List.mem_of_getElem? (l := tables_1_2) (i := 63) rfl), rfl⟩
theorem wq_2_64 : (Jvm.Cond.code ({ cls := "FencedLedger$Recoverer", name := "isBusy", desc := "()Z" } : Jvm.MethodName) prog_4_method_2_code (1 : Nat) (Option.some Jvm.ClassFile.FieldType.boolean)) ∈ fw_ws := List.mem_filter.mpr ⟨fw_in2 (List.mem_of_getElem? (l := tables_1_2) (i := 64) rfl), rfl⟩
theorem wq_2_75 : (Jvm.Cond.instanceMethod ({ cls := "FencedLedger$Recoverer", name := "detail", desc := "(I)I" } : Jvm.MethodName)) ∈ fw_ws := List.mem_filter.mpr ⟨fw_in2 (List.mem_of_getElem? (l := tables_1_2) (i := 75) rfl), rfl⟩
theorem wq_2_76 : (Jvm.Cond.code ({ cls := "FencedLedger$Recoverer", name := "detail", desc := "(I)I" } : Jvm.MethodName) prog_4_method_9_code (2 : Nat) (Option.some Jvm.ClassFile.FieldType.int)) ∈ fw_ws := List.mem_filter.mpr ⟨fw_in2 (List.mem_of_getElem? (l := tables_1_2) (i := 76) rfl), rfl⟩
theorem wq_2_77 : (Jvm.Cond.methodLink "FencedLedger$Recoverer" (39 : Nat) ({ cls := "FencedLedger$Recoverer", name := "countAnswered", desc := "()I" } : Jvm.MethodName)) ∈ fw_ws := List.mem_filter.mpr ⟨fw_in2 (List.mem_of_getElem? (l := tables_1_2) (i := 77) rfl), rfl⟩
theorem wq_2_79 : (Jvm.Cond.instanceMethod ({ cls := "FencedLedger$Recoverer", name := "countAnswered", desc := "()I" } : Jvm.MethodName)) ∈ fw_ws := List.mem_filter.mpr ⟨fw_in2 (List.mem_of_getElem? (l := tables_1_2) (i := 79) rfl), rfl⟩
theorem wq_2_80 : (Jvm.Cond.code ({ cls := "FencedLedger$Recoverer", name := "countAnswered", desc := "()I" } : Jvm.MethodName) prog_4_method_8_code (1 : Nat) (Option.some Jvm.ClassFile.FieldType.int)) ∈ fw_ws := List.mem_filter.mpr ⟨fw_in2 (List.mem_of_getElem? (l := tables_1_2) (i := 80) rfl), rfl⟩
theorem wq_2_81 : (Jvm.Cond.methodLink "FencedLedger$Recoverer" (33 : Nat) ({ cls := "java/lang/Integer", name := "bitCount", desc := "(I)I" } : Jvm.MethodName)) ∈ fw_ws := List.mem_filter.mpr ⟨fw_in2 (List.mem_of_getElem? (l := tables_1_2) (i := 81) rfl), rfl⟩
theorem wq_2_88 : (Jvm.Cond.instanceMethod ({ cls := "FencedLedger$Channel", name := "holds", desc := "(I)Z" } : Jvm.MethodName)) ∈ fw_ws := List.mem_filter.mpr ⟨fw_in2 (List.mem_of_getElem? (l := tables_1_2) (i := 88) rfl), rfl⟩
theorem wq_2_89 : (Jvm.Cond.code ({ cls := "FencedLedger$Channel", name := "holds", desc := "(I)Z" } : Jvm.MethodName) prog_2_method_2_code (2 : Nat) (Option.some Jvm.ClassFile.FieldType.boolean)) ∈ fw_ws := List.mem_filter.mpr ⟨fw_in2 (List.mem_of_getElem? (l := tables_1_2) (i := 89) rfl), rfl⟩
theorem wq_2_92 : (Jvm.Cond.instanceMethod ({ cls := "FencedLedger$Channel", name := "takeOut", desc := "(I)LFencedLedger$Message;" } : Jvm.MethodName)) ∈ fw_ws := List.mem_filter.mpr ⟨fw_in2 (List.mem_of_getElem? (l := tables_1_2) (i := 92) rfl), rfl⟩
theorem wq_2_93 : (Jvm.Cond.code ({ cls := "FencedLedger$Channel", name := "takeOut", desc := "(I)LFencedLedger$Message;" } : Jvm.MethodName) prog_2_method_4_code (4 : Nat) (Option.some (Jvm.ClassFile.FieldType.object "FencedLedger$Message"))) ∈ fw_ws := List.mem_filter.mpr ⟨fw_in2 (List.mem_of_getElem? (l := tables_1_2) (i := 93) rfl), rfl⟩
theorem wq_2_96 : (Jvm.Cond.instanceMethod ({ cls := "FencedLedger$Message", name := "isToStore", desc := "()Z" } : Jvm.MethodName)) ∈ fw_ws := List.mem_filter.mpr ⟨fw_in2 (List.mem_of_getElem? (l := tables_1_2) (i := 96) rfl), rfl⟩
theorem wq_2_97 : (Jvm.Cond.code ({ cls := "FencedLedger$Message", name := "isToStore", desc := "()Z" } : Jvm.MethodName) prog_3_method_2_code (1 : Nat) (Option.some Jvm.ClassFile.FieldType.boolean)) ∈ fw_ws := List.mem_filter.mpr ⟨fw_in2 (List.mem_of_getElem? (l := tables_1_2) (i := 97) rfl), rfl⟩
theorem wq_2_98 : (Jvm.Cond.methodLink "FencedLedger" (133 : Nat) ({ cls := "FencedLedger", name := "reachStore", desc := "(LFencedLedger$Message;)V" } : Jvm.MethodName)) ∈ fw_ws := List.mem_filter.mpr ⟨fw_in2 (List.mem_of_getElem? (l := tables_1_2) (i := 98) rfl), rfl⟩
theorem wq_2_100 : (Jvm.Cond.instanceMethod ({ cls := "FencedLedger", name := "reachStore", desc := "(LFencedLedger$Message;)V" } : Jvm.MethodName)) ∈ fw_ws := List.mem_filter.mpr ⟨fw_in2 (List.mem_of_getElem? (l := tables_1_2) (i := 100) rfl), rfl⟩
theorem wq_2_101 : (Jvm.Cond.code ({ cls := "FencedLedger", name := "reachStore", desc := "(LFencedLedger$Message;)V" } : Jvm.MethodName) prog_1_method_32_code (3 : Nat) (Option.none : Option Jvm.ClassFile.FieldType)) ∈ fw_ws := List.mem_filter.mpr ⟨fw_in2 (List.mem_of_getElem? (l := tables_1_2) (i := 101) rfl), rfl⟩
theorem wq_2_102 : (Jvm.Cond.methodLink "FencedLedger" (231 : Nat) ({ cls := "FencedLedger", name := "reachStoreWithAdd", desc := "(LFencedLedger$Store;LFencedLedger$Message;)V" } : Jvm.MethodName)) ∈ fw_ws := List.mem_filter.mpr ⟨fw_in2 (List.mem_of_getElem? (l := tables_1_2) (i := 102) rfl), rfl⟩
theorem wq_2_104 : (Jvm.Cond.instanceMethod ({ cls := "FencedLedger", name := "reachStoreWithAdd", desc := "(LFencedLedger$Store;LFencedLedger$Message;)V" } : Jvm.MethodName)) ∈ fw_ws := List.mem_filter.mpr ⟨fw_in2 (List.mem_of_getElem? (l := tables_1_2) (i := 104) rfl), rfl⟩
theorem wq_2_105 : (Jvm.Cond.code ({ cls := "FencedLedger", name := "reachStoreWithAdd", desc := "(LFencedLedger$Store;LFencedLedger$Message;)V" } : Jvm.MethodName) prog_1_method_33_code (3 : Nat) (Option.none : Option Jvm.ClassFile.FieldType)) ∈ fw_ws := List.mem_filter.mpr ⟨fw_in2 (List.mem_of_getElem? (l := tables_1_2) (i := 105) rfl), rfl⟩
theorem wq_2_106 : (Jvm.Cond.methodLink "FencedLedger" (241 : Nat) ({ cls := "FencedLedger", name := "sendAnswer", desc := "(LFencedLedger$Message;II)V" } : Jvm.MethodName)) ∈ fw_ws := List.mem_filter.mpr ⟨fw_in2 (List.mem_of_getElem? (l := tables_1_2) (i := 106) rfl), rfl⟩
theorem wq_2_108 : (Jvm.Cond.instanceMethod ({ cls := "FencedLedger", name := "sendAnswer", desc := "(LFencedLedger$Message;II)V" } : Jvm.MethodName)) ∈ fw_ws := List.mem_filter.mpr ⟨fw_in2 (List.mem_of_getElem? (l := tables_1_2) (i := 108) rfl), rfl⟩
theorem wq_2_109 : (Jvm.Cond.code ({ cls := "FencedLedger", name := "sendAnswer", desc := "(LFencedLedger$Message;II)V" } : Jvm.MethodName) prog_1_method_34_code (4 : Nat) (Option.none : Option Jvm.ClassFile.FieldType)) ∈ fw_ws := List.mem_filter.mpr ⟨fw_in2 (List.mem_of_getElem? (l := tables_1_2) (i := 109) rfl), rfl⟩
theorem wq_2_112 : (Jvm.Cond.instanceMethod ({ cls := "FencedLedger$Store", name := "keep", desc := "(III)V" } : Jvm.MethodName)) ∈ fw_ws := List.mem_filter.mpr ⟨fw_in2 (List.mem_of_getElem? (l := tables_1_2) (i := 112) rfl), rfl⟩
theorem wq_2_113 : (Jvm.Cond.code ({ cls := "FencedLedger$Store", name := "keep", desc := "(III)V" } : Jvm.MethodName) prog_5_method_2_code (4 : Nat) (Option.none : Option Jvm.ClassFile.FieldType)) ∈ fw_ws := List.mem_filter.mpr ⟨fw_in2 (List.mem_of_getElem? (l := tables_1_2) (i := 113) rfl), rfl⟩
theorem wq_2_114 : (Jvm.Cond.methodLink "FencedLedger$Store" (33 : Nat) ({ cls := "java/lang/Math", name := "max", desc := "(II)I" } : Jvm.MethodName)) ∈ fw_ws := List.mem_filter.mpr ⟨fw_in2 (List.mem_of_getElem? (l := tables_1_2) (i := 114) rfl), rfl⟩
theorem wq_2_117 : (Jvm.Cond.instanceMethod ({ cls := "FencedLedger$Writer", name := "hear", desc := "(LFencedLedger$Message;I)V" } : Jvm.MethodName)) ∈ fw_ws := List.mem_filter.mpr ⟨fw_in2 (List.mem_of_getElem? (l := tables_1_2) (i := 117) rfl), rfl⟩
theorem wq_2_118 : (Jvm.Cond.code ({ cls := "FencedLedger$Writer", name := "hear", desc := "(LFencedLedger$Message;I)V" } : Jvm.MethodName) prog_6_method_6_code (3 : Nat) (Option.none : Option Jvm.ClassFile.FieldType)) ∈ fw_ws := List.mem_filter.mpr ⟨fw_in2 (List.mem_of_getElem? (l := tables_1_2) (i := 118) rfl), rfl⟩
theorem wq_2_119 : (Jvm.Cond.methodLink "FencedLedger$Writer" (45 : Nat) ({ cls := "FencedLedger$Writer", name := "advanceLac", desc := "(I)V" } : Jvm.MethodName)) ∈ fw_ws := List.mem_filter.mpr ⟨fw_in2 (List.mem_of_getElem? (l := tables_1_2) (i := 119) rfl), rfl⟩
theorem wq_2_121 : (Jvm.Cond.instanceMethod ({ cls := "FencedLedger$Writer", name := "advanceLac", desc := "(I)V" } : Jvm.MethodName)) ∈ fw_ws := List.mem_filter.mpr ⟨fw_in2 (List.mem_of_getElem? (l := tables_1_2) (i := 121) rfl), rfl⟩
theorem wq_2_122 : (Jvm.Cond.code ({ cls := "FencedLedger$Writer", name := "advanceLac", desc := "(I)V" } : Jvm.MethodName) prog_6_method_7_code (3 : Nat) (Option.none : Option Jvm.ClassFile.FieldType)) ∈ fw_ws := List.mem_filter.mpr ⟨fw_in2 (List.mem_of_getElem? (l := tables_1_2) (i := 122) rfl), rfl⟩
theorem wq_2_123 : (Jvm.Cond.methodLink "FencedLedger$Writer" (49 : Nat) ({ cls := "FencedLedger$Writer", name := "countAnswers", desc := "(I)I" } : Jvm.MethodName)) ∈ fw_ws := List.mem_filter.mpr ⟨fw_in2 (List.mem_of_getElem? (l := tables_1_2) (i := 123) rfl), rfl⟩
theorem wq_2_124 : (Jvm.Cond.methodLink "FencedLedger" (144 : Nat) ({ cls := "FencedLedger", name := "reachRecoverer", desc := "(LFencedLedger$Message;)V" } : Jvm.MethodName)) ∈ fw_ws := List.mem_filter.mpr ⟨fw_in2 (List.mem_of_getElem? (l := tables_1_2) (i := 124) rfl), rfl⟩
theorem wq_2_126 : (Jvm.Cond.instanceMethod ({ cls := "FencedLedger", name := "reachRecoverer", desc := "(LFencedLedger$Message;)V" } : Jvm.MethodName)) ∈ fw_ws := List.mem_filter.mpr ⟨fw_in2 (List.mem_of_getElem? (l := tables_1_2) (i := 126) rfl), rfl⟩
theorem wq_2_127 : (Jvm.Cond.code ({ cls := "FencedLedger", name := "reachRecoverer", desc := "(LFencedLedger$Message;)V" } : Jvm.MethodName) prog_1_method_35_code (3 : Nat) (Option.none : Option Jvm.ClassFile.FieldType)) ∈ fw_ws := List.mem_filter.mpr ⟨fw_in2 (List.mem_of_getElem? (l := tables_1_2) (i := 127) rfl), rfl⟩
theorem wq_2_128 : (Jvm.Cond.methodLink "FencedLedger" (253 : Nat) ({ cls := "FencedLedger", name := "hearFenced", desc := "(LFencedLedger$Recoverer;LFencedLedger$Message;)V" } : Jvm.MethodName)) ∈ fw_ws := List.mem_filter.mpr ⟨fw_in2 (List.mem_of_getElem? (l := tables_1_2) (i := 128) rfl), rfl⟩
theorem wq_2_130 : (Jvm.Cond.instanceMethod ({ cls := "FencedLedger", name := "hearFenced", desc := "(LFencedLedger$Recoverer;LFencedLedger$Message;)V" } : Jvm.MethodName)) ∈ fw_ws := List.mem_filter.mpr ⟨fw_in2 (List.mem_of_getElem? (l := tables_1_2) (i := 130) rfl), rfl⟩
theorem wq_2_131 : (Jvm.Cond.code ({ cls := "FencedLedger", name := "hearFenced", desc := "(LFencedLedger$Recoverer;LFencedLedger$Message;)V" } : Jvm.MethodName) prog_1_method_36_code (3 : Nat) (Option.none : Option Jvm.ClassFile.FieldType)) ∈ fw_ws := List.mem_filter.mpr ⟨fw_in2 (List.mem_of_getElem? (l := tables_1_2) (i := 131) rfl), rfl⟩
theorem wq_2_134 : (Jvm.Cond.instanceMethod ({ cls := "FencedLedger$Recoverer", name := "noteAnswer", desc := "(I)V" } : Jvm.MethodName)) ∈ fw_ws := List.mem_filter.mpr ⟨fw_in2 (List.mem_of_getElem? (l := tables_1_2) (i := 134) rfl), rfl⟩
theorem wq_2_135 : (Jvm.Cond.code ({ cls := "FencedLedger$Recoverer", name := "noteAnswer", desc := "(I)V" } : Jvm.MethodName) prog_4_method_7_code (2 : Nat) (Option.none : Option Jvm.ClassFile.FieldType)) ∈ fw_ws := List.mem_filter.mpr ⟨fw_in2 (List.mem_of_getElem? (l := tables_1_2) (i := 135) rfl), rfl⟩
theorem wq_2_136 : (Jvm.Cond.methodLink "FencedLedger" (276 : Nat) ({ cls := "FencedLedger", name := "isWriterFencedOut", desc := "(I)Z" } : Jvm.MethodName)) ∈ fw_ws := List.mem_filter.mpr ⟨fw_in2 (List.mem_of_getElem? (l := tables_1_2) (i := 136) rfl), rfl⟩
theorem wq_2_138 : (Jvm.Cond.instanceMethod ({ cls := "FencedLedger", name := "isWriterFencedOut", desc := "(I)Z" } : Jvm.MethodName)) ∈ fw_ws := List.mem_filter.mpr ⟨fw_in2 (List.mem_of_getElem? (l := tables_1_2) (i := 138) rfl), rfl⟩
theorem wq_2_139 : (Jvm.Cond.code ({ cls := "FencedLedger", name := "isWriterFencedOut", desc := "(I)Z" } : Jvm.MethodName) prog_1_method_39_code (3 : Nat) (Option.some Jvm.ClassFile.FieldType.boolean)) ∈ fw_ws := List.mem_filter.mpr ⟨fw_in2 (List.mem_of_getElem? (l := tables_1_2) (i := 139) rfl), rfl⟩
theorem wq_2_140 : (Jvm.Cond.methodLink "FencedLedger" (290 : Nat) ({ cls := "FencedLedger", name := "countSilent", desc := "(II)I" } : Jvm.MethodName)) ∈ fw_ws := List.mem_filter.mpr ⟨fw_in2 (List.mem_of_getElem? (l := tables_1_2) (i := 140) rfl), rfl⟩
theorem wq_2_142 : (Jvm.Cond.instanceMethod ({ cls := "FencedLedger", name := "countSilent", desc := "(II)I" } : Jvm.MethodName)) ∈ fw_ws := List.mem_filter.mpr ⟨fw_in2 (List.mem_of_getElem? (l := tables_1_2) (i := 142) rfl), rfl⟩
theorem wq_2_143 : (Jvm.Cond.code ({ cls := "FencedLedger", name := "countSilent", desc := "(II)I" } : Jvm.MethodName) prog_1_method_40_code (5 : Nat) (Option.some Jvm.ClassFile.FieldType.int)) ∈ fw_ws := List.mem_filter.mpr ⟨fw_in2 (List.mem_of_getElem? (l := tables_1_2) (i := 143) rfl), rfl⟩
theorem wq_2_144 : (Jvm.Cond.methodLink "FencedLedger" (279 : Nat) ({ cls := "FencedLedger", name := "readOn", desc := "(LFencedLedger$Recoverer;I)V" } : Jvm.MethodName)) ∈ fw_ws := List.mem_filter.mpr ⟨fw_in2 (List.mem_of_getElem? (l := tables_1_2) (i := 144) rfl), rfl⟩
theorem wq_2_146 : (Jvm.Cond.instanceMethod ({ cls := "FencedLedger", name := "readOn", desc := "(LFencedLedger$Recoverer;I)V" } : Jvm.MethodName)) ∈ fw_ws := List.mem_filter.mpr ⟨fw_in2 (List.mem_of_getElem? (l := tables_1_2) (i := 146) rfl), rfl⟩
theorem wq_2_147 : (Jvm.Cond.code ({ cls := "FencedLedger", name := "readOn", desc := "(LFencedLedger$Recoverer;I)V" } : Jvm.MethodName) prog_1_method_41_code (3 : Nat) (Option.none : Option Jvm.ClassFile.FieldType)) ∈ fw_ws := List.mem_filter.mpr ⟨fw_in2 (List.mem_of_getElem? (l := tables_1_2) (i := 147) rfl), rfl⟩
theorem wq_2_148 : (Jvm.Cond.methodLink "FencedLedger" (287 : Nat) ({ cls := "FencedLedger", name := "finish", desc := "(LFencedLedger$Recoverer;I)V" } : Jvm.MethodName)) ∈ fw_ws := List.mem_filter.mpr ⟨fw_in2 (List.mem_of_getElem? (l := tables_1_2) (i := 148) rfl), rfl⟩
theorem wq_2_150 : (Jvm.Cond.instanceMethod ({ cls := "FencedLedger", name := "finish", desc := "(LFencedLedger$Recoverer;I)V" } : Jvm.MethodName)) ∈ fw_ws := List.mem_filter.mpr ⟨fw_in2 (List.mem_of_getElem? (l := tables_1_2) (i := 150) rfl), rfl⟩
theorem wq_2_151 : (Jvm.Cond.code ({ cls := "FencedLedger", name := "finish", desc := "(LFencedLedger$Recoverer;I)V" } : Jvm.MethodName) prog_1_method_42_code (3 : Nat) (Option.none : Option Jvm.ClassFile.FieldType)) ∈ fw_ws := List.mem_filter.mpr ⟨fw_in2 (List.mem_of_getElem? (l := tables_1_2) (i := 151) rfl), rfl⟩
theorem wq_2_154 : (Jvm.Cond.instanceMethod ({ cls := "FencedLedger$Recoverer", name := "beginReading", desc := "(I)V" } : Jvm.MethodName)) ∈ fw_ws := List.mem_filter.mpr ⟨fw_in2 (List.mem_of_getElem? (l := tables_1_2) (i := 154) rfl), rfl⟩
theorem wq_2_155 : (Jvm.Cond.code ({ cls := "FencedLedger$Recoverer", name := "beginReading", desc := "(I)V" } : Jvm.MethodName) prog_4_method_5_code (2 : Nat) (Option.none : Option Jvm.ClassFile.FieldType)) ∈ fw_ws := List.mem_filter.mpr ⟨fw_in2 (List.mem_of_getElem? (l := tables_1_2) (i := 155) rfl), rfl⟩
theorem wq_2_158 : (Jvm.Cond.instanceMethod ({ cls := "FencedLedger$Recoverer", name := "awaits", desc := "(II)Z" } : Jvm.MethodName)) ∈ fw_ws := List.mem_filter.mpr ⟨fw_in2 (List.mem_of_getElem? (l := tables_1_2) (i := 158) rfl), rfl⟩
theorem wq_2_159 : (Jvm.Cond.code ({ cls := "FencedLedger$Recoverer", name := "awaits", desc := "(II)Z" } : Jvm.MethodName) prog_4_method_3_code (3 : Nat) (Option.some Jvm.ClassFile.FieldType.boolean)) ∈ fw_ws := List.mem_filter.mpr ⟨fw_in2 (List.mem_of_getElem? (l := tables_1_2) (i := 159) rfl), rfl⟩
theorem wq_2_162 : (Jvm.Cond.instanceMethod ({ cls := "FencedLedger$Recoverer", name := "beginWritingBack", desc := "(I)V" } : Jvm.MethodName)) ∈ fw_ws := List.mem_filter.mpr ⟨fw_in2 (List.mem_of_getElem? (l := tables_1_2) (i := 162) rfl), rfl⟩
theorem wq_2_163 : (Jvm.Cond.code ({ cls := "FencedLedger$Recoverer", name := "beginWritingBack", desc := "(I)V" } : Jvm.MethodName) prog_4_method_6_code (2 : Nat) (Option.none : Option Jvm.ClassFile.FieldType)) ∈ fw_ws := List.mem_filter.mpr ⟨fw_in2 (List.mem_of_getElem? (l := tables_1_2) (i := 163) rfl), rfl⟩
theorem wq_2_164 : (Jvm.Cond.methodLink "FencedLedger" (264 : Nat) ({ cls := "FencedLedger", name := "hearMissing", desc := "(LFencedLedger$Recoverer;LFencedLedger$Message;)V" } : Jvm.MethodName)) ∈ fw_ws := List.mem_filter.mpr ⟨fw_in2 (List.mem_of_getElem? (l := tables_1_2) (i := 164) rfl), rfl⟩
theorem wq_2_166 : (Jvm.Cond.instanceMethod ({ cls := "FencedLedger", name := "hearMissing", desc := "(LFencedLedger$Recoverer;LFencedLedger$Message;)V" } : Jvm.MethodName)) ∈ fw_ws := List.mem_filter.mpr ⟨fw_in2 (List.mem_of_getElem? (l := tables_1_2) (i := 166) rfl), rfl⟩
theorem wq_2_167 : (Jvm.Cond.code ({ cls := "FencedLedger", name := "hearMissing", desc := "(LFencedLedger$Recoverer;LFencedLedger$Message;)V" } : Jvm.MethodName) prog_1_method_37_code (3 : Nat) (Option.none : Option Jvm.ClassFile.FieldType)) ∈ fw_ws := List.mem_filter.mpr ⟨fw_in2 (List.mem_of_getElem? (l := tables_1_2) (i := 167) rfl), rfl⟩
theorem wq_2_169 : (Jvm.Cond.methodLink "FencedLedger" (267 : Nat) ({ cls := "FencedLedger", name := "hearAdded", desc := "(LFencedLedger$Recoverer;LFencedLedger$Message;)V" } : Jvm.MethodName)) ∈ fw_ws := List.mem_filter.mpr ⟨fw_in2 (List.mem_of_getElem? (l := tables_1_2) (i := 169) rfl), rfl⟩
theorem wq_2_171 : (Jvm.Cond.instanceMethod ({ cls := "FencedLedger", name := "hearAdded", desc := "(LFencedLedger$Recoverer;LFencedLedger$Message;)V" } : Jvm.MethodName)) ∈ fw_ws := List.mem_filter.mpr ⟨fw_in2 (List.mem_of_getElem? (l := tables_1_2) (i := 171) rfl), rfl⟩
theorem wq_2_172 : (Jvm.Cond.code ({ cls := "FencedLedger", name := "hearAdded", desc := "(LFencedLedger$Recoverer;LFencedLedger$Message;)V" } : Jvm.MethodName) prog_1_method_38_code (3 : Nat) (Option.none : Option Jvm.ClassFile.FieldType)) ∈ fw_ws := List.mem_filter.mpr ⟨fw_in2 (List.mem_of_getElem? (l := tables_1_2) (i := 172) rfl), rfl⟩
theorem wq_2_187 : (Jvm.Cond.instanceMethod ({ cls := "FencedLedger$Message", name := "detail", desc := "(I)I" } : Jvm.MethodName)) ∈ fw_ws := List.mem_filter.mpr ⟨fw_in2 (List.mem_of_getElem? (l := tables_1_2) (i := 187) rfl), rfl⟩
theorem wq_2_188 : (Jvm.Cond.code ({ cls := "FencedLedger$Message", name := "detail", desc := "(I)I" } : Jvm.MethodName) prog_3_method_3_code (2 : Nat) (Option.some Jvm.ClassFile.FieldType.int)) ∈ fw_ws := List.mem_filter.mpr ⟨fw_in2 (List.mem_of_getElem? (l := tables_1_2) (i := 188) rfl), rfl⟩
theorem wq_2_193 : (Jvm.Cond.methodLink "FencedLedger" (158 : Nat) ({ cls := "FencedLedger", name := "isStore", desc := "(I)Z" } : Jvm.MethodName)) ∈ fw_ws := List.mem_filter.mpr ⟨fw_in2 (List.mem_of_getElem? (l := tables_1_2) (i := 193) rfl), rfl⟩
theorem wq_2_195 : (Jvm.Cond.instanceMethod ({ cls := "FencedLedger", name := "isStore", desc := "(I)Z" } : Jvm.MethodName)) ∈ fw_ws := List.mem_filter.mpr ⟨fw_in2 (List.mem_of_getElem? (l := tables_1_2) (i := 195) rfl), rfl⟩
theorem wq_2_196 : (Jvm.Cond.code ({ cls := "FencedLedger", name := "isStore", desc := "(I)Z" } : Jvm.MethodName) prog_1_method_24_code (2 : Nat) (Option.some Jvm.ClassFile.FieldType.boolean)) ∈ fw_ws := List.mem_filter.mpr ⟨fw_in2 (List.mem_of_getElem? (l := tables_1_2) (i := 196) rfl), rfl⟩
theorem wq_2_203 : (Jvm.Cond.instanceMethod ({ cls := "FencedLedger$Store", name := "detail", desc := "(I)I" } : Jvm.MethodName)) ∈ fw_ws := List.mem_filter.mpr ⟨fw_in2 (List.mem_of_getElem? (l := tables_1_2) (i := 203) rfl), rfl⟩
theorem wq_2_204 : (Jvm.Cond.code ({ cls := "FencedLedger$Store", name := "detail", desc := "(I)I" } : Jvm.MethodName) prog_5_method_3_code (2 : Nat) (Option.some Jvm.ClassFile.FieldType.int)) ∈ fw_ws := List.mem_filter.mpr ⟨fw_in2 (List.mem_of_getElem? (l := tables_1_2) (i := 204) rfl), rfl⟩
theorem wq_2_209 : (Jvm.Cond.methodLink "FencedLedger" (166 : Nat) ({ cls := "FencedLedger", name := "isEntry", desc := "(I)Z" } : Jvm.MethodName)) ∈ fw_ws := List.mem_filter.mpr ⟨fw_in2 (List.mem_of_getElem? (l := tables_1_2) (i := 209) rfl), rfl⟩
theorem wq_2_210 : (Jvm.Cond.static ({ cls := "FencedLedger", name := "isEntry", desc := "(I)Z" } : Jvm.MethodName)) ∈ fw_ws := List.mem_filter.mpr ⟨fw_in2 (List.mem_of_getElem? (l := tables_1_2) (i := 210) rfl), rfl⟩
theorem wq_2_211 : (Jvm.Cond.code ({ cls := "FencedLedger", name := "isEntry", desc := "(I)Z" } : Jvm.MethodName) prog_1_method_22_code (1 : Nat) (Option.some Jvm.ClassFile.FieldType.boolean)) ∈ fw_ws := List.mem_filter.mpr ⟨fw_in2 (List.mem_of_getElem? (l := tables_1_2) (i := 211) rfl), rfl⟩
theorem wq_3_115 : (Jvm.Cond.methodLink "FencedLedgerModel" (1 : Nat) ({ cls := "java/lang/Object", name := "<init>", desc := "()V" } : Jvm.MethodName)) ∈ fw_ws := List.mem_filter.mpr ⟨fw_in3 (List.mem_of_getElem? (l := tables_1_3) (i := 115) rfl), rfl⟩
theorem wq_3_116 : (Jvm.Cond.fieldLink "FencedLedgerModel" (69 : Nat) "FencedLedgerModel" "thrown" "I") ∈ fw_ws := List.mem_filter.mpr ⟨fw_in3 (List.mem_of_getElem? (l := tables_1_3) (i := 116) rfl), rfl⟩
theorem wq_3_117 : (Jvm.Cond.fieldLink "FencedLedgerModel" (60 : Nat) "FencedLedgerModel" "stores" "I") ∈ fw_ws := List.mem_filter.mpr ⟨fw_in3 (List.mem_of_getElem? (l := tables_1_3) (i := 117) rfl), rfl⟩
theorem wq_3_118 : (Jvm.Cond.fieldLink "FencedLedgerModel" (63 : Nat) "FencedLedgerModel" "width" "I") ∈ fw_ws := List.mem_filter.mpr ⟨fw_in3 (List.mem_of_getElem? (l := tables_1_3) (i := 118) rfl), rfl⟩
theorem wq_3_119 : (Jvm.Cond.fieldLink "FencedLedgerModel" (66 : Nat) "FencedLedgerModel" "quorum" "I") ∈ fw_ws := List.mem_filter.mpr ⟨fw_in3 (List.mem_of_getElem? (l := tables_1_3) (i := 119) rfl), rfl⟩
theorem wq_3_120 : (Jvm.Cond.fieldLink "FencedLedgerModel" (7 : Nat) "FencedLedgerModel" "off" "[Z") ∈ fw_ws := List.mem_filter.mpr ⟨fw_in3 (List.mem_of_getElem? (l := tables_1_3) (i := 120) rfl), rfl⟩
theorem wq_3_121 : (Jvm.Cond.fieldLink "FencedLedgerModel" (13 : Nat) "FencedLedgerModel" "fenced" "[Z") ∈ fw_ws := List.mem_filter.mpr ⟨fw_in3 (List.mem_of_getElem? (l := tables_1_3) (i := 121) rfl), rfl⟩
theorem wq_3_122 : (Jvm.Cond.fieldLink "FencedLedgerModel" (16 : Nat) "FencedLedgerModel" "mark" "[I") ∈ fw_ws := List.mem_filter.mpr ⟨fw_in3 (List.mem_of_getElem? (l := tables_1_3) (i := 122) rfl), rfl⟩
theorem wq_3_123 : (Jvm.Cond.fieldLink "FencedLedgerModel" (20 : Nat) "FencedLedgerModel" "held" "[Z") ∈ fw_ws := List.mem_filter.mpr ⟨fw_in3 (List.mem_of_getElem? (l := tables_1_3) (i := 123) rfl), rfl⟩
theorem wq_3_124 : (Jvm.Cond.fieldLink "FencedLedgerModel" (23 : Nat) "FencedLedgerModel" "heldValue" "[I") ∈ fw_ws := List.mem_filter.mpr ⟨fw_in3 (List.mem_of_getElem? (l := tables_1_3) (i := 124) rfl), rfl⟩
theorem wq_3_125 : (Jvm.Cond.fieldLink "FencedLedgerModel" (115 : Nat) "FencedLedgerModel" "stage" "I") ∈ fw_ws := List.mem_filter.mpr ⟨fw_in3 (List.mem_of_getElem? (l := tables_1_3) (i := 125) rfl), rfl⟩
theorem wq_3_126 : (Jvm.Cond.fieldLink "FencedLedgerModel" (118 : Nat) "FencedLedgerModel" "version" "I") ∈ fw_ws := List.mem_filter.mpr ⟨fw_in3 (List.mem_of_getElem? (l := tables_1_3) (i := 126) rfl), rfl⟩
theorem wq_3_127 : (Jvm.Cond.fieldLink "FencedLedgerModel" (26 : Nat) "FencedLedgerModel" "last" "I") ∈ fw_ws := List.mem_filter.mpr ⟨fw_in3 (List.mem_of_getElem? (l := tables_1_3) (i := 127) rfl), rfl⟩
theorem wq_3_128 : (Jvm.Cond.fieldLink "FencedLedgerModel" (72 : Nat) "FencedLedgerModel" "flying" "I") ∈ fw_ws := List.mem_filter.mpr ⟨fw_in3 (List.mem_of_getElem? (l := tables_1_3) (i := 128) rfl), rfl⟩
theorem wq_3_129 : (Jvm.Cond.fieldLink "FencedLedgerModel" (30 : Nat) "FencedLedgerModel" "fly" "[I") ∈ fw_ws := List.mem_filter.mpr ⟨fw_in3 (List.mem_of_getElem? (l := tables_1_3) (i := 129) rfl), rfl⟩
theorem wq_3_130 : (Jvm.Cond.fieldLink "FencedLedgerModel" (102 : Nat) "FencedLedgerModel" "writing" "I") ∈ fw_ws := List.mem_filter.mpr ⟨fw_in3 (List.mem_of_getElem? (l := tables_1_3) (i := 130) rfl), rfl⟩
theorem wq_3_131 : (Jvm.Cond.fieldLink "FencedLedgerModel" (105 : Nat) "FencedLedgerModel" "added" "I") ∈ fw_ws := List.mem_filter.mpr ⟨fw_in3 (List.mem_of_getElem? (l := tables_1_3) (i := 131) rfl), rfl⟩
theorem wq_3_132 : (Jvm.Cond.fieldLink "FencedLedgerModel" (33 : Nat) "FencedLedgerModel" "lac" "I") ∈ fw_ws := List.mem_filter.mpr ⟨fw_in3 (List.mem_of_getElem? (l := tables_1_3) (i := 132) rfl), rfl⟩
theorem wq_3_133 : (Jvm.Cond.fieldLink "FencedLedgerModel" (36 : Nat) "FencedLedgerModel" "written" "[I") ∈ fw_ws := List.mem_filter.mpr ⟨fw_in3 (List.mem_of_getElem? (l := tables_1_3) (i := 133) rfl), rfl⟩
theorem wq_3_134 : (Jvm.Cond.fieldLink "FencedLedgerModel" (39 : Nat) "FencedLedgerModel" "acked" "[Z") ∈ fw_ws := List.mem_filter.mpr ⟨fw_in3 (List.mem_of_getElem? (l := tables_1_3) (i := 134) rfl), rfl⟩
theorem wq_3_135 : (Jvm.Cond.fieldLink "FencedLedgerModel" (42 : Nat) "FencedLedgerModel" "mode" "[I") ∈ fw_ws := List.mem_filter.mpr ⟨fw_in3 (List.mem_of_getElem? (l := tables_1_3) (i := 135) rfl), rfl⟩
theorem wq_3_136 : (Jvm.Cond.fieldLink "FencedLedgerModel" (45 : Nat) "FencedLedgerModel" "term" "[I") ∈ fw_ws := List.mem_filter.mpr ⟨fw_in3 (List.mem_of_getElem? (l := tables_1_3) (i := 136) rfl), rfl⟩
theorem wq_3_137 : (Jvm.Cond.fieldLink "FencedLedgerModel" (48 : Nat) "FencedLedgerModel" "at" "[I") ∈ fw_ws := List.mem_filter.mpr ⟨fw_in3 (List.mem_of_getElem? (l := tables_1_3) (i := 137) rfl), rfl⟩
theorem wq_3_138 : (Jvm.Cond.fieldLink "FencedLedgerModel" (51 : Nat) "FencedLedgerModel" "highest" "[I") ∈ fw_ws := List.mem_filter.mpr ⟨fw_in3 (List.mem_of_getElem? (l := tables_1_3) (i := 138) rfl), rfl⟩
theorem wq_3_139 : (Jvm.Cond.fieldLink "FencedLedgerModel" (54 : Nat) "FencedLedgerModel" "back" "[I") ∈ fw_ws := List.mem_filter.mpr ⟨fw_in3 (List.mem_of_getElem? (l := tables_1_3) (i := 139) rfl), rfl⟩
theorem wq_3_140 : (Jvm.Cond.fieldLink "FencedLedgerModel" (57 : Nat) "FencedLedgerModel" "answered" "[Z") ∈ fw_ws := List.mem_filter.mpr ⟨fw_in3 (List.mem_of_getElem? (l := tables_1_3) (i := 140) rfl), rfl⟩
theorem wq_3_141 : (Jvm.Cond.lays "FencedLedgerModel" "FencedLedgerModel" "thrown" "I") ∈ fw_ws := List.mem_filter.mpr ⟨fw_in3 (List.mem_of_getElem? (l := tables_1_3) (i := 141) rfl), rfl⟩
theorem wq_3_143 : (Jvm.Cond.lays "FencedLedgerModel" "FencedLedgerModel" "stores" "I") ∈ fw_ws := List.mem_filter.mpr ⟨fw_in3 (List.mem_of_getElem? (l := tables_1_3) (i := 143) rfl), rfl⟩
theorem wq_3_145 : (Jvm.Cond.lays "FencedLedgerModel" "FencedLedgerModel" "width" "I") ∈ fw_ws := List.mem_filter.mpr ⟨fw_in3 (List.mem_of_getElem? (l := tables_1_3) (i := 145) rfl), rfl⟩
theorem wq_3_147 : (Jvm.Cond.lays "FencedLedgerModel" "FencedLedgerModel" "quorum" "I") ∈ fw_ws := List.mem_filter.mpr ⟨fw_in3 (List.mem_of_getElem? (l := tables_1_3) (i := 147) rfl), rfl⟩
theorem wq_3_149 : (Jvm.Cond.lays "FencedLedgerModel" "FencedLedgerModel" "off" "[Z") ∈ fw_ws := List.mem_filter.mpr ⟨fw_in3 (List.mem_of_getElem? (l := tables_1_3) (i := 149) rfl), rfl⟩
theorem wq_3_151 : (Jvm.Cond.lays "FencedLedgerModel" "FencedLedgerModel" "fenced" "[Z") ∈ fw_ws := List.mem_filter.mpr ⟨fw_in3 (List.mem_of_getElem? (l := tables_1_3) (i := 151) rfl), rfl⟩
theorem wq_3_153 : (Jvm.Cond.lays "FencedLedgerModel" "FencedLedgerModel" "mark" "[I") ∈ fw_ws := List.mem_filter.mpr ⟨fw_in3 (List.mem_of_getElem? (l := tables_1_3) (i := 153) rfl), rfl⟩
theorem wq_3_155 : (Jvm.Cond.lays "FencedLedgerModel" "FencedLedgerModel" "held" "[Z") ∈ fw_ws := List.mem_filter.mpr ⟨fw_in3 (List.mem_of_getElem? (l := tables_1_3) (i := 155) rfl), rfl⟩
theorem wq_3_157 : (Jvm.Cond.lays "FencedLedgerModel" "FencedLedgerModel" "heldValue" "[I") ∈ fw_ws := List.mem_filter.mpr ⟨fw_in3 (List.mem_of_getElem? (l := tables_1_3) (i := 157) rfl), rfl⟩
theorem wq_3_159 : (Jvm.Cond.lays "FencedLedgerModel" "FencedLedgerModel" "stage" "I") ∈ fw_ws := List.mem_filter.mpr ⟨fw_in3 (List.mem_of_getElem? (l := tables_1_3) (i := 159) rfl), rfl⟩
theorem wq_3_161 : (Jvm.Cond.lays "FencedLedgerModel" "FencedLedgerModel" "version" "I") ∈ fw_ws := List.mem_filter.mpr ⟨fw_in3 (List.mem_of_getElem? (l := tables_1_3) (i := 161) rfl), rfl⟩
theorem wq_3_163 : (Jvm.Cond.lays "FencedLedgerModel" "FencedLedgerModel" "last" "I") ∈ fw_ws := List.mem_filter.mpr ⟨fw_in3 (List.mem_of_getElem? (l := tables_1_3) (i := 163) rfl), rfl⟩
theorem wq_3_165 : (Jvm.Cond.lays "FencedLedgerModel" "FencedLedgerModel" "flying" "I") ∈ fw_ws := List.mem_filter.mpr ⟨fw_in3 (List.mem_of_getElem? (l := tables_1_3) (i := 165) rfl), rfl⟩
theorem wq_3_167 : (Jvm.Cond.lays "FencedLedgerModel" "FencedLedgerModel" "fly" "[I") ∈ fw_ws := List.mem_filter.mpr ⟨fw_in3 (List.mem_of_getElem? (l := tables_1_3) (i := 167) rfl), rfl⟩
theorem wq_3_169 : (Jvm.Cond.lays "FencedLedgerModel" "FencedLedgerModel" "writing" "I") ∈ fw_ws := List.mem_filter.mpr ⟨fw_in3 (List.mem_of_getElem? (l := tables_1_3) (i := 169) rfl), rfl⟩
theorem wq_3_171 : (Jvm.Cond.lays "FencedLedgerModel" "FencedLedgerModel" "added" "I") ∈ fw_ws := List.mem_filter.mpr ⟨fw_in3 (List.mem_of_getElem? (l := tables_1_3) (i := 171) rfl), rfl⟩
theorem wq_3_173 : (Jvm.Cond.lays "FencedLedgerModel" "FencedLedgerModel" "lac" "I") ∈ fw_ws := List.mem_filter.mpr ⟨fw_in3 (List.mem_of_getElem? (l := tables_1_3) (i := 173) rfl), rfl⟩
theorem wq_3_175 : (Jvm.Cond.lays "FencedLedgerModel" "FencedLedgerModel" "written" "[I") ∈ fw_ws := List.mem_filter.mpr ⟨fw_in3 (List.mem_of_getElem? (l := tables_1_3) (i := 175) rfl), rfl⟩
theorem wq_3_177 : (Jvm.Cond.lays "FencedLedgerModel" "FencedLedgerModel" "acked" "[Z") ∈ fw_ws := List.mem_filter.mpr ⟨fw_in3 (List.mem_of_getElem? (l := tables_1_3) (i := 177) rfl), rfl⟩
theorem wq_3_179 : (Jvm.Cond.lays "FencedLedgerModel" "FencedLedgerModel" "mode" "[I") ∈ fw_ws := List.mem_filter.mpr ⟨fw_in3 (List.mem_of_getElem? (l := tables_1_3) (i := 179) rfl), rfl⟩
theorem wq_3_181 : (Jvm.Cond.lays "FencedLedgerModel" "FencedLedgerModel" "term" "[I") ∈ fw_ws := List.mem_filter.mpr ⟨fw_in3 (List.mem_of_getElem? (l := tables_1_3) (i := 181) rfl), rfl⟩
theorem wq_3_183 : (Jvm.Cond.lays "FencedLedgerModel" "FencedLedgerModel" "at" "[I") ∈ fw_ws := List.mem_filter.mpr ⟨fw_in3 (List.mem_of_getElem? (l := tables_1_3) (i := 183) rfl), rfl⟩
theorem wq_3_185 : (Jvm.Cond.lays "FencedLedgerModel" "FencedLedgerModel" "highest" "[I") ∈ fw_ws := List.mem_filter.mpr ⟨fw_in3 (List.mem_of_getElem? (l := tables_1_3) (i := 185) rfl), rfl⟩
theorem wq_3_187 : (Jvm.Cond.lays "FencedLedgerModel" "FencedLedgerModel" "back" "[I") ∈ fw_ws := List.mem_filter.mpr ⟨fw_in3 (List.mem_of_getElem? (l := tables_1_3) (i := 187) rfl), rfl⟩
theorem wq_3_189 : (Jvm.Cond.lays "FencedLedgerModel" "FencedLedgerModel" "answered" "[Z") ∈ fw_ws := List.mem_filter.mpr ⟨fw_in3 (List.mem_of_getElem? (l := tables_1_3) (i := 189) rfl), rfl⟩
theorem wq_3_200 : (Jvm.Cond.methodLink "FencedLedgerModel" (75 : Nat) ({ cls := "FencedLedgerModel", name := "isMessage", desc := "(I)Z" } : Jvm.MethodName)) ∈ fw_ws := List.mem_filter.mpr ⟨fw_in3 (List.mem_of_getElem? (l := tables_1_3) (i := 200) rfl), rfl⟩
theorem wq_3_202 : (Jvm.Cond.instanceMethod ({ cls := "FencedLedgerModel", name := "isMessage", desc := "(I)Z" } : Jvm.MethodName)) ∈ fw_ws := List.mem_filter.mpr ⟨fw_in3 (List.mem_of_getElem? (l := tables_1_3) (i := 202) rfl), rfl⟩
theorem wq_3_203 : (Jvm.Cond.code ({ cls := "FencedLedgerModel", name := "isMessage", desc := "(I)Z" } : Jvm.MethodName) prog_8_method_5_code (2 : Nat) (Option.some Jvm.ClassFile.FieldType.boolean)) ∈ fw_ws := List.mem_filter.mpr ⟨fw_in3 (List.mem_of_getElem? (l := tables_1_3) (i := 203) rfl), rfl⟩
theorem wq_3_204 : (Jvm.Cond.methodLink "FencedLedgerModel" (79 : Nat) ({ cls := "FencedLedgerModel", name := "remove", desc := "(I)V" } : Jvm.MethodName)) ∈ fw_ws := List.mem_filter.mpr ⟨fw_in3 (List.mem_of_getElem? (l := tables_1_3) (i := 204) rfl), rfl⟩
theorem wq_3_206 : (Jvm.Cond.instanceMethod ({ cls := "FencedLedgerModel", name := "remove", desc := "(I)V" } : Jvm.MethodName)) ∈ fw_ws := List.mem_filter.mpr ⟨fw_in3 (List.mem_of_getElem? (l := tables_1_3) (i := 206) rfl), rfl⟩
theorem wq_3_207 : (Jvm.Cond.code ({ cls := "FencedLedgerModel", name := "remove", desc := "(I)V" } : Jvm.MethodName) prog_8_method_4_code (3 : Nat) (Option.none : Option Jvm.ClassFile.FieldType)) ∈ fw_ws := List.mem_filter.mpr ⟨fw_in3 (List.mem_of_getElem? (l := tables_1_3) (i := 207) rfl), rfl⟩
theorem wq_3_208 : (Jvm.Cond.methodLink "FencedLedgerModel" (83 : Nat) ({ cls := "FencedLedgerModel", name := "keep", desc := "(IIIIII)V" } : Jvm.MethodName)) ∈ fw_ws := List.mem_filter.mpr ⟨fw_in3 (List.mem_of_getElem? (l := tables_1_3) (i := 208) rfl), rfl⟩
theorem wq_3_210 : (Jvm.Cond.instanceMethod ({ cls := "FencedLedgerModel", name := "keep", desc := "(IIIIII)V" } : Jvm.MethodName)) ∈ fw_ws := List.mem_filter.mpr ⟨fw_in3 (List.mem_of_getElem? (l := tables_1_3) (i := 210) rfl), rfl⟩
theorem wq_3_211 : (Jvm.Cond.code ({ cls := "FencedLedgerModel", name := "keep", desc := "(IIIIII)V" } : Jvm.MethodName) prog_8_method_10_code (7 : Nat) (Option.none : Option Jvm.ClassFile.FieldType)) ∈ fw_ws := List.mem_filter.mpr ⟨fw_in3 (List.mem_of_getElem? (l := tables_1_3) (i := 211) rfl), rfl⟩
theorem wq_3_212 : (Jvm.Cond.methodLink "FencedLedgerModel" (98 : Nat) ({ cls := "FencedLedgerModel", name := "send", desc := "(IIIIIII)V" } : Jvm.MethodName)) ∈ fw_ws := List.mem_filter.mpr ⟨fw_in3 (List.mem_of_getElem? (l := tables_1_3) (i := 212) rfl), rfl⟩
theorem wq_3_214 : (Jvm.Cond.instanceMethod ({ cls := "FencedLedgerModel", name := "send", desc := "(IIIIIII)V" } : Jvm.MethodName)) ∈ fw_ws := List.mem_filter.mpr ⟨fw_in3 (List.mem_of_getElem? (l := tables_1_3) (i := 214) rfl), rfl⟩
theorem wq_3_215 : (Jvm.Cond.code ({ cls := "FencedLedgerModel", name := "send", desc := "(IIIIIII)V" } : Jvm.MethodName) prog_8_method_3_code (9 : Nat) (Option.none : Option Jvm.ClassFile.FieldType)) ∈ fw_ws := List.mem_filter.mpr ⟨fw_in3 (List.mem_of_getElem? (l := tables_1_3) (i := 215) rfl), rfl⟩
theorem wq_3_216 : (Jvm.Cond.methodLink "FencedLedgerModel" (87 : Nat) ({ cls := "FencedLedgerModel", name := "fence", desc := "(IIIII)V" } : Jvm.MethodName)) ∈ fw_ws := List.mem_filter.mpr ⟨fw_in3 (List.mem_of_getElem? (l := tables_1_3) (i := 216) rfl), rfl⟩
theorem wq_3_218 : (Jvm.Cond.instanceMethod ({ cls := "FencedLedgerModel", name := "fence", desc := "(IIIII)V" } : Jvm.MethodName)) ∈ fw_ws := List.mem_filter.mpr ⟨fw_in3 (List.mem_of_getElem? (l := tables_1_3) (i := 218) rfl), rfl⟩
theorem wq_3_219 : (Jvm.Cond.code ({ cls := "FencedLedgerModel", name := "fence", desc := "(IIIII)V" } : Jvm.MethodName) prog_8_method_11_code (6 : Nat) (Option.none : Option Jvm.ClassFile.FieldType)) ∈ fw_ws := List.mem_filter.mpr ⟨fw_in3 (List.mem_of_getElem? (l := tables_1_3) (i := 219) rfl), rfl⟩
theorem wq_3_220 : (Jvm.Cond.methodLink "FencedLedgerModel" (91 : Nat) ({ cls := "FencedLedgerModel", name := "hears", desc := "(III)V" } : Jvm.MethodName)) ∈ fw_ws := List.mem_filter.mpr ⟨fw_in3 (List.mem_of_getElem? (l := tables_1_3) (i := 220) rfl), rfl⟩
theorem wq_3_222 : (Jvm.Cond.instanceMethod ({ cls := "FencedLedgerModel", name := "hears", desc := "(III)V" } : Jvm.MethodName)) ∈ fw_ws := List.mem_filter.mpr ⟨fw_in3 (List.mem_of_getElem? (l := tables_1_3) (i := 222) rfl), rfl⟩
theorem wq_3_223 : (Jvm.Cond.code ({ cls := "FencedLedgerModel", name := "hears", desc := "(III)V" } : Jvm.MethodName) prog_8_method_13_code (6 : Nat) (Option.none : Option Jvm.ClassFile.FieldType)) ∈ fw_ws := List.mem_filter.mpr ⟨fw_in3 (List.mem_of_getElem? (l := tables_1_3) (i := 223) rfl), rfl⟩
theorem wq_3_224 : (Jvm.Cond.methodLink "FencedLedgerModel" (108 : Nat) ({ cls := "FencedLedgerModel", name := "ackCount", desc := "(I)I" } : Jvm.MethodName)) ∈ fw_ws := List.mem_filter.mpr ⟨fw_in3 (List.mem_of_getElem? (l := tables_1_3) (i := 224) rfl), rfl⟩
theorem wq_3_226 : (Jvm.Cond.instanceMethod ({ cls := "FencedLedgerModel", name := "ackCount", desc := "(I)I" } : Jvm.MethodName)) ∈ fw_ws := List.mem_filter.mpr ⟨fw_in3 (List.mem_of_getElem? (l := tables_1_3) (i := 226) rfl), rfl⟩
theorem wq_3_227 : (Jvm.Cond.code ({ cls := "FencedLedgerModel", name := "ackCount", desc := "(I)I" } : Jvm.MethodName) prog_8_method_12_code (4 : Nat) (Option.some Jvm.ClassFile.FieldType.int)) ∈ fw_ws := List.mem_filter.mpr ⟨fw_in3 (List.mem_of_getElem? (l := tables_1_3) (i := 227) rfl), rfl⟩
theorem wq_3_228 : (Jvm.Cond.methodLink "FencedLedgerModel" (95 : Nat) ({ cls := "FencedLedgerModel", name := "learns", desc := "(IIIII)V" } : Jvm.MethodName)) ∈ fw_ws := List.mem_filter.mpr ⟨fw_in3 (List.mem_of_getElem? (l := tables_1_3) (i := 228) rfl), rfl⟩
theorem wq_3_230 : (Jvm.Cond.instanceMethod ({ cls := "FencedLedgerModel", name := "learns", desc := "(IIIII)V" } : Jvm.MethodName)) ∈ fw_ws := List.mem_filter.mpr ⟨fw_in3 (List.mem_of_getElem? (l := tables_1_3) (i := 230) rfl), rfl⟩
theorem wq_3_231 : (Jvm.Cond.code ({ cls := "FencedLedgerModel", name := "learns", desc := "(IIIII)V" } : Jvm.MethodName) prog_8_method_25_code (8 : Nat) (Option.none : Option Jvm.ClassFile.FieldType)) ∈ fw_ws := List.mem_filter.mpr ⟨fw_in3 (List.mem_of_getElem? (l := tables_1_3) (i := 231) rfl), rfl⟩
theorem wq_3_232 : (Jvm.Cond.methodLink "FencedLedgerModel" (131 : Nat) ({ cls := "FencedLedgerModel", name := "covers", desc := "(I)Z" } : Jvm.MethodName)) ∈ fw_ws := List.mem_filter.mpr ⟨fw_in3 (List.mem_of_getElem? (l := tables_1_3) (i := 232) rfl), rfl⟩
theorem wq_3_234 : (Jvm.Cond.instanceMethod ({ cls := "FencedLedgerModel", name := "covers", desc := "(I)Z" } : Jvm.MethodName)) ∈ fw_ws := List.mem_filter.mpr ⟨fw_in3 (List.mem_of_getElem? (l := tables_1_3) (i := 234) rfl), rfl⟩
theorem wq_3_235 : (Jvm.Cond.code ({ cls := "FencedLedgerModel", name := "covers", desc := "(I)Z" } : Jvm.MethodName) prog_8_method_24_code (6 : Nat) (Option.some Jvm.ClassFile.FieldType.boolean)) ∈ fw_ws := List.mem_filter.mpr ⟨fw_in3 (List.mem_of_getElem? (l := tables_1_3) (i := 235) rfl), rfl⟩
theorem wq_3_236 : (Jvm.Cond.methodLink "FencedLedgerModel" (134 : Nat) ({ cls := "FencedLedgerModel", name := "readOn", desc := "(II)V" } : Jvm.MethodName)) ∈ fw_ws := List.mem_filter.mpr ⟨fw_in3 (List.mem_of_getElem? (l := tables_1_3) (i := 236) rfl), rfl⟩
theorem wq_3_238 : (Jvm.Cond.instanceMethod ({ cls := "FencedLedgerModel", name := "readOn", desc := "(II)V" } : Jvm.MethodName)) ∈ fw_ws := List.mem_filter.mpr ⟨fw_in3 (List.mem_of_getElem? (l := tables_1_3) (i := 238) rfl), rfl⟩
theorem wq_3_239 : (Jvm.Cond.code ({ cls := "FencedLedgerModel", name := "readOn", desc := "(II)V" } : Jvm.MethodName) prog_8_method_23_code (4 : Nat) (Option.none : Option Jvm.ClassFile.FieldType)) ∈ fw_ws := List.mem_filter.mpr ⟨fw_in3 (List.mem_of_getElem? (l := tables_1_3) (i := 239) rfl), rfl⟩
theorem wq_4_0 : (Jvm.Cond.methodLink "FencedLedgerModel" (121 : Nat) ({ cls := "FencedLedgerModel", name := "finish", desc := "(II)V" } : Jvm.MethodName)) ∈ fw_ws := List.mem_filter.mpr ⟨fw_in4 (List.mem_of_getElem? (l := tables_1_4) (i := 0) rfl), rfl⟩
theorem wq_4_2 : (Jvm.Cond.instanceMethod ({ cls := "FencedLedgerModel", name := "finish", desc := "(II)V" } : Jvm.MethodName)) ∈ fw_ws := List.mem_filter.mpr ⟨fw_in4 (List.mem_of_getElem? (l := tables_1_4) (i := 2) rfl), rfl⟩
theorem wq_4_3 : (Jvm.Cond.code ({ cls := "FencedLedgerModel", name := "finish", desc := "(II)V" } : Jvm.MethodName) prog_8_method_22_code (3 : Nat) (Option.none : Option Jvm.ClassFile.FieldType)) ∈ fw_ws := List.mem_filter.mpr ⟨fw_in4 (List.mem_of_getElem? (l := tables_1_4) (i := 3) rfl), rfl⟩
theorem wq_4_4 : (Jvm.Cond.methodLink "FencedLedgerModel" (125 : Nat) ({ cls := "FencedLedgerModel", name := "forget", desc := "(I)V" } : Jvm.MethodName)) ∈ fw_ws := List.mem_filter.mpr ⟨fw_in4 (List.mem_of_getElem? (l := tables_1_4) (i := 4) rfl), rfl⟩
theorem wq_4_6 : (Jvm.Cond.instanceMethod ({ cls := "FencedLedgerModel", name := "forget", desc := "(I)V" } : Jvm.MethodName)) ∈ fw_ws := List.mem_filter.mpr ⟨fw_in4 (List.mem_of_getElem? (l := tables_1_4) (i := 6) rfl), rfl⟩
theorem wq_4_7 : (Jvm.Cond.code ({ cls := "FencedLedgerModel", name := "forget", desc := "(I)V" } : Jvm.MethodName) prog_8_method_19_code (3 : Nat) (Option.none : Option Jvm.ClassFile.FieldType)) ∈ fw_ws := List.mem_filter.mpr ⟨fw_in4 (List.mem_of_getElem? (l := tables_1_4) (i := 7) rfl), rfl⟩
theorem wq_4_8 : (Jvm.Cond.methodLink "FencedLedgerModel" (128 : Nat) ({ cls := "FencedLedgerModel", name := "ask", desc := "(I)I" } : Jvm.MethodName)) ∈ fw_ws := List.mem_filter.mpr ⟨fw_in4 (List.mem_of_getElem? (l := tables_1_4) (i := 8) rfl), rfl⟩
theorem wq_4_10 : (Jvm.Cond.instanceMethod ({ cls := "FencedLedgerModel", name := "ask", desc := "(I)I" } : Jvm.MethodName)) ∈ fw_ws := List.mem_filter.mpr ⟨fw_in4 (List.mem_of_getElem? (l := tables_1_4) (i := 10) rfl), rfl⟩
theorem wq_4_11 : (Jvm.Cond.code ({ cls := "FencedLedgerModel", name := "ask", desc := "(I)I" } : Jvm.MethodName) prog_8_method_21_code (6 : Nat) (Option.some Jvm.ClassFile.FieldType.int)) ∈ fw_ws := List.mem_filter.mpr ⟨fw_in4 (List.mem_of_getElem? (l := tables_1_4) (i := 11) rfl), rfl⟩
theorem wq_4_12 : (Jvm.Cond.methodLink "FencedLedgerModel" (137 : Nat) ({ cls := "FencedLedgerModel", name := "answerCount", desc := "(I)I" } : Jvm.MethodName)) ∈ fw_ws := List.mem_filter.mpr ⟨fw_in4 (List.mem_of_getElem? (l := tables_1_4) (i := 12) rfl), rfl⟩
theorem wq_4_14 : (Jvm.Cond.instanceMethod ({ cls := "FencedLedgerModel", name := "answerCount", desc := "(I)I" } : Jvm.MethodName)) ∈ fw_ws := List.mem_filter.mpr ⟨fw_in4 (List.mem_of_getElem? (l := tables_1_4) (i := 14) rfl), rfl⟩
theorem wq_4_15 : (Jvm.Cond.code ({ cls := "FencedLedgerModel", name := "answerCount", desc := "(I)I" } : Jvm.MethodName) prog_8_method_20_code (4 : Nat) (Option.some Jvm.ClassFile.FieldType.int)) ∈ fw_ws := List.mem_filter.mpr ⟨fw_in4 (List.mem_of_getElem? (l := tables_1_4) (i := 15) rfl), rfl⟩
theorem wq_4_32 : (Jvm.Cond.methodLink "FencedLedgerModel" (112 : Nat) ({ cls := "FencedLedgerModel", name := "spread", desc := "(I)I" } : Jvm.MethodName)) ∈ fw_ws := List.mem_filter.mpr ⟨fw_in4 (List.mem_of_getElem? (l := tables_1_4) (i := 32) rfl), rfl⟩
theorem wq_4_34 : (Jvm.Cond.instanceMethod ({ cls := "FencedLedgerModel", name := "spread", desc := "(I)I" } : Jvm.MethodName)) ∈ fw_ws := List.mem_filter.mpr ⟨fw_in4 (List.mem_of_getElem? (l := tables_1_4) (i := 34) rfl), rfl⟩
theorem wq_4_35 : (Jvm.Cond.code ({ cls := "FencedLedgerModel", name := "spread", desc := "(I)I" } : Jvm.MethodName) prog_8_method_14_code (5 : Nat) (Option.some Jvm.ClassFile.FieldType.int)) ∈ fw_ws := List.mem_filter.mpr ⟨fw_in4 (List.mem_of_getElem? (l := tables_1_4) (i := 35) rfl), rfl⟩
theorem wq_4_52 : (Jvm.Cond.methodLink "FencedLedgerModel" (140 : Nat) ({ cls := "FencedLedgerModel", name := "isRecoverer", desc := "(I)Z" } : Jvm.MethodName)) ∈ fw_ws := List.mem_filter.mpr ⟨fw_in4 (List.mem_of_getElem? (l := tables_1_4) (i := 52) rfl), rfl⟩
theorem wq_4_53 : (Jvm.Cond.static ({ cls := "FencedLedgerModel", name := "isRecoverer", desc := "(I)Z" } : Jvm.MethodName)) ∈ fw_ws := List.mem_filter.mpr ⟨fw_in4 (List.mem_of_getElem? (l := tables_1_4) (i := 53) rfl), rfl⟩
theorem wq_4_54 : (Jvm.Cond.code ({ cls := "FencedLedgerModel", name := "isRecoverer", desc := "(I)Z" } : Jvm.MethodName) prog_8_method_26_code (1 : Nat) (Option.some Jvm.ClassFile.FieldType.boolean)) ∈ fw_ws := List.mem_filter.mpr ⟨fw_in4 (List.mem_of_getElem? (l := tables_1_4) (i := 54) rfl), rfl⟩
theorem wq_4_59 : (Jvm.Cond.methodLink "FencedLedgerModel" (143 : Nat) ({ cls := "FencedLedgerModel", name := "busy", desc := "(I)Z" } : Jvm.MethodName)) ∈ fw_ws := List.mem_filter.mpr ⟨fw_in4 (List.mem_of_getElem? (l := tables_1_4) (i := 59) rfl), rfl⟩
theorem wq_4_61 : (Jvm.Cond.instanceMethod ({ cls := "FencedLedgerModel", name := "busy", desc := "(I)Z" } : Jvm.MethodName)) ∈ fw_ws := List.mem_filter.mpr ⟨fw_in4 (List.mem_of_getElem? (l := tables_1_4) (i := 61) rfl), rfl⟩
theorem wq_4_62 : (Jvm.Cond.code ({ cls := "FencedLedgerModel", name := "busy", desc := "(I)Z" } : Jvm.MethodName) prog_8_method_28_code (2 : Nat) (Option.some Jvm.ClassFile.FieldType.boolean)) ∈ fw_ws := List.mem_filter.mpr ⟨fw_in4 (List.mem_of_getElem? (l := tables_1_4) (i := 62) rfl), rfl⟩
theorem wq_4_71 : (Jvm.Cond.methodLink "FencedLedgerModel" (146 : Nat) ({ cls := "FencedLedgerModel", name := "isStore", desc := "(I)Z" } : Jvm.MethodName)) ∈ fw_ws := List.mem_filter.mpr ⟨fw_in4 (List.mem_of_getElem? (l := tables_1_4) (i := 71) rfl), rfl⟩
theorem wq_4_73 : (Jvm.Cond.instanceMethod ({ cls := "FencedLedgerModel", name := "isStore", desc := "(I)Z" } : Jvm.MethodName)) ∈ fw_ws := List.mem_filter.mpr ⟨fw_in4 (List.mem_of_getElem? (l := tables_1_4) (i := 73) rfl), rfl⟩
theorem wq_4_74 : (Jvm.Cond.code ({ cls := "FencedLedgerModel", name := "isStore", desc := "(I)Z" } : Jvm.MethodName) prog_8_method_31_code (2 : Nat) (Option.some Jvm.ClassFile.FieldType.boolean)) ∈ fw_ws := List.mem_filter.mpr ⟨fw_in4 (List.mem_of_getElem? (l := tables_1_4) (i := 74) rfl), rfl⟩
theorem wn_1_36 : (Jvm.Cond.methodLinkNest "FencedLedger" (29 : Nat) ({ cls := "FencedLedger$Store", name := "<init>", desc := "()V" } : Jvm.MethodName) "FencedLedger") ∈ fw_nest := List.mem_filter.mpr ⟨fw_in1 (List.mem_of_getElem? (l := tables_1_1) (i := 36) rfl), rfl⟩
theorem wn_1_41 : (Jvm.Cond.fieldLinkNest "FencedLedger" (169 : Nat) "FencedLedger$Store" "kept" "[Z" "FencedLedger") ∈ fw_nest := List.mem_filter.mpr ⟨fw_in1 (List.mem_of_getElem? (l := tables_1_1) (i := 41) rfl), rfl⟩
theorem wn_1_43 : (Jvm.Cond.fieldLinkNest "FencedLedger" (185 : Nat) "FencedLedger$Store" "values" "[I" "FencedLedger") ∈ fw_nest := List.mem_filter.mpr ⟨fw_in1 (List.mem_of_getElem? (l := tables_1_1) (i := 43) rfl), rfl⟩
theorem wn_1_45 : (Jvm.Cond.fieldLinkNest "FencedLedger" (161 : Nat) "FencedLedger$Store" "up" "Z" "FencedLedger") ∈ fw_nest := List.mem_filter.mpr ⟨fw_in1 (List.mem_of_getElem? (l := tables_1_1) (i := 45) rfl), rfl⟩
theorem wn_1_47 : (Jvm.Cond.fieldLinkNest "FencedLedger" (235 : Nat) "FencedLedger$Store" "fenced" "Z" "FencedLedger") ∈ fw_nest := List.mem_filter.mpr ⟨fw_in1 (List.mem_of_getElem? (l := tables_1_1) (i := 47) rfl), rfl⟩
theorem wn_1_49 : (Jvm.Cond.fieldLinkNest "FencedLedger" (238 : Nat) "FencedLedger$Store" "mark" "I" "FencedLedger") ∈ fw_nest := List.mem_filter.mpr ⟨fw_in1 (List.mem_of_getElem? (l := tables_1_1) (i := 49) rfl), rfl⟩
theorem wn_1_68 : (Jvm.Cond.methodLinkNest "FencedLedger" (32 : Nat) ({ cls := "FencedLedger$Channel", name := "<init>", desc := "()V" } : Jvm.MethodName) "FencedLedger") ∈ fw_nest := List.mem_filter.mpr ⟨fw_in1 (List.mem_of_getElem? (l := tables_1_1) (i := 68) rfl), rfl⟩
theorem wn_1_75 : (Jvm.Cond.methodLinkNest "FencedLedger$Channel" (17 : Nat) ({ cls := "FencedLedger$Message", name := "<init>", desc := "()V" } : Jvm.MethodName) "FencedLedger") ∈ fw_nest := List.mem_filter.mpr ⟨fw_in1 (List.mem_of_getElem? (l := tables_1_1) (i := 75) rfl), rfl⟩
theorem wn_1_80 : (Jvm.Cond.fieldLinkNest "FencedLedger$Channel" (26 : Nat) "FencedLedger$Message" "kind" "I" "FencedLedger") ∈ fw_nest := List.mem_filter.mpr ⟨fw_in1 (List.mem_of_getElem? (l := tables_1_1) (i := 80) rfl), rfl⟩
theorem wn_1_81 : (Jvm.Cond.fieldLinkNest "FencedLedger$Writer" (34 : Nat) "FencedLedger$Message" "kind" "I" "FencedLedger") ∈ fw_nest := List.mem_filter.mpr ⟨fw_in1 (List.mem_of_getElem? (l := tables_1_1) (i := 81) rfl), rfl⟩
theorem wn_1_82 : (Jvm.Cond.fieldLinkNest "FencedLedger" (147 : Nat) "FencedLedger$Message" "kind" "I" "FencedLedger") ∈ fw_nest := List.mem_filter.mpr ⟨fw_in1 (List.mem_of_getElem? (l := tables_1_1) (i := 82) rfl), rfl⟩
theorem wn_1_84 : (Jvm.Cond.fieldLinkNest "FencedLedger$Channel" (29 : Nat) "FencedLedger$Message" "client" "I" "FencedLedger") ∈ fw_nest := List.mem_filter.mpr ⟨fw_in1 (List.mem_of_getElem? (l := tables_1_1) (i := 84) rfl), rfl⟩
theorem wn_1_85 : (Jvm.Cond.fieldLinkNest "FencedLedger" (137 : Nat) "FencedLedger$Message" "client" "I" "FencedLedger") ∈ fw_nest := List.mem_filter.mpr ⟨fw_in1 (List.mem_of_getElem? (l := tables_1_1) (i := 85) rfl), rfl⟩
theorem wn_1_87 : (Jvm.Cond.fieldLinkNest "FencedLedger$Channel" (32 : Nat) "FencedLedger$Message" "store" "I" "FencedLedger") ∈ fw_nest := List.mem_filter.mpr ⟨fw_in1 (List.mem_of_getElem? (l := tables_1_1) (i := 87) rfl), rfl⟩
theorem wn_1_88 : (Jvm.Cond.fieldLinkNest "FencedLedger$Writer" (42 : Nat) "FencedLedger$Message" "store" "I" "FencedLedger") ∈ fw_nest := List.mem_filter.mpr ⟨fw_in1 (List.mem_of_getElem? (l := tables_1_1) (i := 88) rfl), rfl⟩
theorem wn_1_89 : (Jvm.Cond.fieldLinkNest "FencedLedger" (228 : Nat) "FencedLedger$Message" "store" "I" "FencedLedger") ∈ fw_nest := List.mem_filter.mpr ⟨fw_in1 (List.mem_of_getElem? (l := tables_1_1) (i := 89) rfl), rfl⟩
theorem wn_1_91 : (Jvm.Cond.fieldLinkNest "FencedLedger$Channel" (35 : Nat) "FencedLedger$Message" "entry" "I" "FencedLedger") ∈ fw_nest := List.mem_filter.mpr ⟨fw_in1 (List.mem_of_getElem? (l := tables_1_1) (i := 91) rfl), rfl⟩
theorem wn_1_92 : (Jvm.Cond.fieldLinkNest "FencedLedger$Writer" (39 : Nat) "FencedLedger$Message" "entry" "I" "FencedLedger") ∈ fw_nest := List.mem_filter.mpr ⟨fw_in1 (List.mem_of_getElem? (l := tables_1_1) (i := 92) rfl), rfl⟩
theorem wn_1_93 : (Jvm.Cond.fieldLinkNest "FencedLedger" (245 : Nat) "FencedLedger$Message" "entry" "I" "FencedLedger") ∈ fw_nest := List.mem_filter.mpr ⟨fw_in1 (List.mem_of_getElem? (l := tables_1_1) (i := 93) rfl), rfl⟩
theorem wn_1_95 : (Jvm.Cond.fieldLinkNest "FencedLedger$Channel" (38 : Nat) "FencedLedger$Message" "value" "I" "FencedLedger") ∈ fw_nest := List.mem_filter.mpr ⟨fw_in1 (List.mem_of_getElem? (l := tables_1_1) (i := 95) rfl), rfl⟩
theorem wn_1_96 : (Jvm.Cond.fieldLinkNest "FencedLedger" (246 : Nat) "FencedLedger$Message" "value" "I" "FencedLedger") ∈ fw_nest := List.mem_filter.mpr ⟨fw_in1 (List.mem_of_getElem? (l := tables_1_1) (i := 96) rfl), rfl⟩
theorem wn_1_98 : (Jvm.Cond.fieldLinkNest "FencedLedger$Channel" (41 : Nat) "FencedLedger$Message" "term" "I" "FencedLedger") ∈ fw_nest := List.mem_filter.mpr ⟨fw_in1 (List.mem_of_getElem? (l := tables_1_1) (i := 98) rfl), rfl⟩
theorem wn_1_99 : (Jvm.Cond.fieldLinkNest "FencedLedger" (252 : Nat) "FencedLedger$Message" "term" "I" "FencedLedger") ∈ fw_nest := List.mem_filter.mpr ⟨fw_in1 (List.mem_of_getElem? (l := tables_1_1) (i := 99) rfl), rfl⟩
theorem wn_1_101 : (Jvm.Cond.fieldLinkNest "FencedLedger$Channel" (44 : Nat) "FencedLedger$Message" "mark" "I" "FencedLedger") ∈ fw_nest := List.mem_filter.mpr ⟨fw_in1 (List.mem_of_getElem? (l := tables_1_1) (i := 101) rfl), rfl⟩
theorem wn_1_102 : (Jvm.Cond.fieldLinkNest "FencedLedger" (247 : Nat) "FencedLedger$Message" "mark" "I" "FencedLedger") ∈ fw_nest := List.mem_filter.mpr ⟨fw_in1 (List.mem_of_getElem? (l := tables_1_1) (i := 102) rfl), rfl⟩
theorem wn_1_119 : (Jvm.Cond.fieldLinkNest "FencedLedger" (153 : Nat) "FencedLedger$Channel" "rows" "[LFencedLedger$Message;" "FencedLedger") ∈ fw_nest := List.mem_filter.mpr ⟨fw_in1 (List.mem_of_getElem? (l := tables_1_1) (i := 119) rfl), rfl⟩
theorem wn_1_122 : (Jvm.Cond.fieldLinkNest "FencedLedger" (150 : Nat) "FencedLedger$Channel" "count" "I" "FencedLedger") ∈ fw_nest := List.mem_filter.mpr ⟨fw_in1 (List.mem_of_getElem? (l := tables_1_1) (i := 122) rfl), rfl⟩
theorem wn_1_132 : (Jvm.Cond.methodLinkNest "FencedLedger" (39 : Nat) ({ cls := "FencedLedger$Writer", name := "<init>", desc := "()V" } : Jvm.MethodName) "FencedLedger") ∈ fw_nest := List.mem_filter.mpr ⟨fw_in1 (List.mem_of_getElem? (l := tables_1_1) (i := 132) rfl), rfl⟩
theorem wn_1_137 : (Jvm.Cond.fieldLinkNest "FencedLedger" (201 : Nat) "FencedLedger$Writer" "values" "[I" "FencedLedger") ∈ fw_nest := List.mem_filter.mpr ⟨fw_in1 (List.mem_of_getElem? (l := tables_1_1) (i := 137) rfl), rfl⟩
theorem wn_1_139 : (Jvm.Cond.fieldLinkNest "FencedLedger" (202 : Nat) "FencedLedger$Writer" "answered" "[I" "FencedLedger") ∈ fw_nest := List.mem_filter.mpr ⟨fw_in1 (List.mem_of_getElem? (l := tables_1_1) (i := 139) rfl), rfl⟩
theorem wn_1_141 : (Jvm.Cond.fieldLinkNest "FencedLedger" (62 : Nat) "FencedLedger$Writer" "state" "I" "FencedLedger") ∈ fw_nest := List.mem_filter.mpr ⟨fw_in1 (List.mem_of_getElem? (l := tables_1_1) (i := 141) rfl), rfl⟩
theorem wn_1_143 : (Jvm.Cond.fieldLinkNest "FencedLedger" (101 : Nat) "FencedLedger$Writer" "entryCount" "I" "FencedLedger") ∈ fw_nest := List.mem_filter.mpr ⟨fw_in1 (List.mem_of_getElem? (l := tables_1_1) (i := 143) rfl), rfl⟩
theorem wn_1_145 : (Jvm.Cond.fieldLinkNest "FencedLedger" (92 : Nat) "FencedLedger$Writer" "lac" "I" "FencedLedger") ∈ fw_nest := List.mem_filter.mpr ⟨fw_in1 (List.mem_of_getElem? (l := tables_1_1) (i := 145) rfl), rfl⟩
theorem wn_1_160 : (Jvm.Cond.methodLinkNest "FencedLedger" (50 : Nat) ({ cls := "FencedLedger$Recoverer", name := "<init>", desc := "(I)V" } : Jvm.MethodName) "FencedLedger") ∈ fw_nest := List.mem_filter.mpr ⟨fw_in1 (List.mem_of_getElem? (l := tables_1_1) (i := 160) rfl), rfl⟩
theorem wn_1_165 : (Jvm.Cond.fieldLinkNest "FencedLedger" (215 : Nat) "FencedLedger$Recoverer" "client" "I" "FencedLedger") ∈ fw_nest := List.mem_filter.mpr ⟨fw_in1 (List.mem_of_getElem? (l := tables_1_1) (i := 165) rfl), rfl⟩
theorem wn_1_167 : (Jvm.Cond.fieldLinkNest "FencedLedger" (107 : Nat) "FencedLedger$Recoverer" "state" "I" "FencedLedger") ∈ fw_nest := List.mem_filter.mpr ⟨fw_in1 (List.mem_of_getElem? (l := tables_1_1) (i := 167) rfl), rfl⟩
theorem wn_1_169 : (Jvm.Cond.fieldLinkNest "FencedLedger" (216 : Nat) "FencedLedger$Recoverer" "term" "I" "FencedLedger") ∈ fw_nest := List.mem_filter.mpr ⟨fw_in1 (List.mem_of_getElem? (l := tables_1_1) (i := 169) rfl), rfl⟩
theorem wn_1_171 : (Jvm.Cond.fieldLinkNest "FencedLedger" (222 : Nat) "FencedLedger$Recoverer" "entry" "I" "FencedLedger") ∈ fw_nest := List.mem_filter.mpr ⟨fw_in1 (List.mem_of_getElem? (l := tables_1_1) (i := 171) rfl), rfl⟩
theorem wn_1_173 : (Jvm.Cond.fieldLinkNest "FencedLedger" (213 : Nat) "FencedLedger$Recoverer" "answered" "I" "FencedLedger") ∈ fw_nest := List.mem_filter.mpr ⟨fw_in1 (List.mem_of_getElem? (l := tables_1_1) (i := 173) rfl), rfl⟩
theorem wn_1_175 : (Jvm.Cond.fieldLinkNest "FencedLedger" (273 : Nat) "FencedLedger$Recoverer" "highestMark" "I" "FencedLedger") ∈ fw_nest := List.mem_filter.mpr ⟨fw_in1 (List.mem_of_getElem? (l := tables_1_1) (i := 175) rfl), rfl⟩
theorem wn_1_177 : (Jvm.Cond.fieldLinkNest "FencedLedger" (225 : Nat) "FencedLedger$Recoverer" "value" "I" "FencedLedger") ∈ fw_nest := List.mem_filter.mpr ⟨fw_in1 (List.mem_of_getElem? (l := tables_1_1) (i := 177) rfl), rfl⟩
theorem wn_1_228 : (Jvm.Cond.methodLinkNest "FencedLedger" (88 : Nat) ({ cls := "FencedLedger$Writer", name := "knows", desc := "(I)Z" } : Jvm.MethodName) "FencedLedger") ∈ fw_nest := List.mem_filter.mpr ⟨fw_in1 (List.mem_of_getElem? (l := tables_1_1) (i := 228) rfl), rfl⟩
theorem wn_1_232 : (Jvm.Cond.methodLinkNest "FencedLedger" (95 : Nat) ({ cls := "FencedLedger$Writer", name := "countAnswers", desc := "(I)I" } : Jvm.MethodName) "FencedLedger") ∈ fw_nest := List.mem_filter.mpr ⟨fw_in1 (List.mem_of_getElem? (l := tables_1_1) (i := 232) rfl), rfl⟩
theorem wn_2_14 : (Jvm.Cond.methodLinkNest "FencedLedger" (209 : Nat) ({ cls := "FencedLedger$Channel", name := "send", desc := "(IIIIIII)V" } : Jvm.MethodName) "FencedLedger") ∈ fw_nest := List.mem_filter.mpr ⟨fw_in2 (List.mem_of_getElem? (l := tables_1_2) (i := 14) rfl), rfl⟩
theorem wn_2_45 : (Jvm.Cond.methodLinkNest "FencedLedger" (108 : Nat) ({ cls := "FencedLedger$Recoverer", name := "beginFencing", desc := "(I)V" } : Jvm.MethodName) "FencedLedger") ∈ fw_nest := List.mem_filter.mpr ⟨fw_in2 (List.mem_of_getElem? (l := tables_1_2) (i := 45) rfl), rfl⟩
theorem wn_2_61 : (Jvm.Cond.methodLinkNest "FencedLedger" (115 : Nat) ({ cls := "FencedLedger$Recoverer", name := "isBusy", desc := "()Z" } : Jvm.MethodName) "FencedLedger") ∈ fw_nest := List.mem_filter.mpr ⟨fw_in2 (List.mem_of_getElem? (l := tables_1_2) (i := 61) rfl), rfl⟩
theorem wn_2_73 : (Jvm.Cond.methodLinkNest "FencedLedger" (118 : Nat) ({ cls := "FencedLedger$Recoverer", name := "detail", desc := "(I)I" } : Jvm.MethodName) "FencedLedger") ∈ fw_nest := List.mem_filter.mpr ⟨fw_in2 (List.mem_of_getElem? (l := tables_1_2) (i := 73) rfl), rfl⟩
theorem wn_2_86 : (Jvm.Cond.methodLinkNest "FencedLedger" (121 : Nat) ({ cls := "FencedLedger$Channel", name := "holds", desc := "(I)Z" } : Jvm.MethodName) "FencedLedger") ∈ fw_nest := List.mem_filter.mpr ⟨fw_in2 (List.mem_of_getElem? (l := tables_1_2) (i := 86) rfl), rfl⟩
theorem wn_2_90 : (Jvm.Cond.methodLinkNest "FencedLedger" (124 : Nat) ({ cls := "FencedLedger$Channel", name := "takeOut", desc := "(I)LFencedLedger$Message;" } : Jvm.MethodName) "FencedLedger") ∈ fw_nest := List.mem_filter.mpr ⟨fw_in2 (List.mem_of_getElem? (l := tables_1_2) (i := 90) rfl), rfl⟩
theorem wn_2_94 : (Jvm.Cond.methodLinkNest "FencedLedger" (128 : Nat) ({ cls := "FencedLedger$Message", name := "isToStore", desc := "()Z" } : Jvm.MethodName) "FencedLedger") ∈ fw_nest := List.mem_filter.mpr ⟨fw_in2 (List.mem_of_getElem? (l := tables_1_2) (i := 94) rfl), rfl⟩
theorem wn_2_110 : (Jvm.Cond.methodLinkNest "FencedLedger" (248 : Nat) ({ cls := "FencedLedger$Store", name := "keep", desc := "(III)V" } : Jvm.MethodName) "FencedLedger") ∈ fw_nest := List.mem_filter.mpr ⟨fw_in2 (List.mem_of_getElem? (l := tables_1_2) (i := 110) rfl), rfl⟩
theorem wn_2_115 : (Jvm.Cond.methodLinkNest "FencedLedger" (140 : Nat) ({ cls := "FencedLedger$Writer", name := "hear", desc := "(LFencedLedger$Message;I)V" } : Jvm.MethodName) "FencedLedger") ∈ fw_nest := List.mem_filter.mpr ⟨fw_in2 (List.mem_of_getElem? (l := tables_1_2) (i := 115) rfl), rfl⟩
theorem wn_2_132 : (Jvm.Cond.methodLinkNest "FencedLedger" (270 : Nat) ({ cls := "FencedLedger$Recoverer", name := "noteAnswer", desc := "(I)V" } : Jvm.MethodName) "FencedLedger") ∈ fw_nest := List.mem_filter.mpr ⟨fw_in2 (List.mem_of_getElem? (l := tables_1_2) (i := 132) rfl), rfl⟩
theorem wn_2_152 : (Jvm.Cond.methodLinkNest "FencedLedger" (293 : Nat) ({ cls := "FencedLedger$Recoverer", name := "beginReading", desc := "(I)V" } : Jvm.MethodName) "FencedLedger") ∈ fw_nest := List.mem_filter.mpr ⟨fw_in2 (List.mem_of_getElem? (l := tables_1_2) (i := 152) rfl), rfl⟩
theorem wn_2_156 : (Jvm.Cond.methodLinkNest "FencedLedger" (257 : Nat) ({ cls := "FencedLedger$Recoverer", name := "awaits", desc := "(II)Z" } : Jvm.MethodName) "FencedLedger") ∈ fw_nest := List.mem_filter.mpr ⟨fw_in2 (List.mem_of_getElem? (l := tables_1_2) (i := 156) rfl), rfl⟩
theorem wn_2_160 : (Jvm.Cond.methodLinkNest "FencedLedger" (261 : Nat) ({ cls := "FencedLedger$Recoverer", name := "beginWritingBack", desc := "(I)V" } : Jvm.MethodName) "FencedLedger") ∈ fw_nest := List.mem_filter.mpr ⟨fw_in2 (List.mem_of_getElem? (l := tables_1_2) (i := 160) rfl), rfl⟩
theorem wn_2_168 : (Jvm.Cond.methodLinkNest "FencedLedger" (283 : Nat) ({ cls := "FencedLedger$Recoverer", name := "countAnswered", desc := "()I" } : Jvm.MethodName) "FencedLedger") ∈ fw_nest := List.mem_filter.mpr ⟨fw_in2 (List.mem_of_getElem? (l := tables_1_2) (i := 168) rfl), rfl⟩
theorem wn_2_185 : (Jvm.Cond.methodLinkNest "FencedLedger" (157 : Nat) ({ cls := "FencedLedger$Message", name := "detail", desc := "(I)I" } : Jvm.MethodName) "FencedLedger") ∈ fw_nest := List.mem_filter.mpr ⟨fw_in2 (List.mem_of_getElem? (l := tables_1_2) (i := 185) rfl), rfl⟩
theorem wn_2_201 : (Jvm.Cond.methodLinkNest "FencedLedger" (165 : Nat) ({ cls := "FencedLedger$Store", name := "detail", desc := "(I)I" } : Jvm.MethodName) "FencedLedger") ∈ fw_nest := List.mem_filter.mpr ⟨fw_in2 (List.mem_of_getElem? (l := tables_1_2) (i := 201) rfl), rfl⟩
theorem wsel_CH_holds : Cond.selects R_CH y_CH_holds y_CH_holds ∈ fw_ws := List.mem_filter.mpr ⟨List.mem_append_left _ (List.mem_map.mpr ⟨(y_CH_holds, 3), by decide +kernel, rfl⟩), rfl⟩
theorem wsel_CH_send : Cond.selects R_CH y_CH_send y_CH_send ∈ fw_ws := List.mem_filter.mpr ⟨List.mem_append_left _ (List.mem_map.mpr ⟨(y_CH_send, 3), by decide +kernel, rfl⟩), rfl⟩
theorem wsel_CH_takeOut : Cond.selects R_CH y_CH_takeOut y_CH_takeOut ∈ fw_ws := List.mem_filter.mpr ⟨List.mem_append_left _ (List.mem_map.mpr ⟨(y_CH_takeOut, 3), by decide +kernel, rfl⟩), rfl⟩
theorem wsel_FL_countSilent : Cond.selects R_FL y_FL_countSilent y_FL_countSilent ∈ fw_ws := List.mem_filter.mpr ⟨List.mem_append_left _ (List.mem_map.mpr ⟨(y_FL_countSilent, 10), by decide +kernel, rfl⟩), rfl⟩
theorem wsel_FL_finish : Cond.selects R_FL y_FL_finish y_FL_finish ∈ fw_ws := List.mem_filter.mpr ⟨List.mem_append_left _ (List.mem_map.mpr ⟨(y_FL_finish, 10), by decide +kernel, rfl⟩), rfl⟩
theorem wsel_FL_hearAdded : Cond.selects R_FL y_FL_hearAdded y_FL_hearAdded ∈ fw_ws := List.mem_filter.mpr ⟨List.mem_append_left _ (List.mem_map.mpr ⟨(y_FL_hearAdded, 10), by decide +kernel, rfl⟩), rfl⟩
theorem wsel_FL_hearFenced : Cond.selects R_FL y_FL_hearFenced y_FL_hearFenced ∈ fw_ws := List.mem_filter.mpr ⟨List.mem_append_left _ (List.mem_map.mpr ⟨(y_FL_hearFenced, 10), by decide +kernel, rfl⟩), rfl⟩
theorem wsel_FL_hearMissing : Cond.selects R_FL y_FL_hearMissing y_FL_hearMissing ∈ fw_ws := List.mem_filter.mpr ⟨List.mem_append_left _ (List.mem_map.mpr ⟨(y_FL_hearMissing, 10), by decide +kernel, rfl⟩), rfl⟩
theorem wsel_FL_isStore : Cond.selects R_FL y_FL_isStore y_FL_isStore ∈ fw_ws := List.mem_filter.mpr ⟨List.mem_append_left _ (List.mem_map.mpr ⟨(y_FL_isStore, 10), by decide +kernel, rfl⟩), rfl⟩
theorem wsel_FL_isWriterFencedOut : Cond.selects R_FL y_FL_isWriterFencedOut y_FL_isWriterFencedOut ∈ fw_ws := List.mem_filter.mpr ⟨List.mem_append_left _ (List.mem_map.mpr ⟨(y_FL_isWriterFencedOut, 10), by decide +kernel, rfl⟩), rfl⟩
theorem wsel_FL_reachRecoverer : Cond.selects R_FL y_FL_reachRecoverer y_FL_reachRecoverer ∈ fw_ws := List.mem_filter.mpr ⟨List.mem_append_left _ (List.mem_map.mpr ⟨(y_FL_reachRecoverer, 10), by decide +kernel, rfl⟩), rfl⟩
theorem wsel_FL_reachStore : Cond.selects R_FL y_FL_reachStore y_FL_reachStore ∈ fw_ws := List.mem_filter.mpr ⟨List.mem_append_left _ (List.mem_map.mpr ⟨(y_FL_reachStore, 10), by decide +kernel, rfl⟩), rfl⟩
theorem wsel_FL_reachStoreWithAdd : Cond.selects R_FL y_FL_reachStoreWithAdd y_FL_reachStoreWithAdd ∈ fw_ws := List.mem_filter.mpr ⟨List.mem_append_left _ (List.mem_map.mpr ⟨(y_FL_reachStoreWithAdd, 10), by decide +kernel, rfl⟩), rfl⟩
theorem wsel_FL_readOn : Cond.selects R_FL y_FL_readOn y_FL_readOn ∈ fw_ws := List.mem_filter.mpr ⟨List.mem_append_left _ (List.mem_map.mpr ⟨(y_FL_readOn, 10), by decide +kernel, rfl⟩), rfl⟩
theorem wsel_FL_sendAnswer : Cond.selects R_FL y_FL_sendAnswer y_FL_sendAnswer ∈ fw_ws := List.mem_filter.mpr ⟨List.mem_append_left _ (List.mem_map.mpr ⟨(y_FL_sendAnswer, 10), by decide +kernel, rfl⟩), rfl⟩
theorem wsel_FL_sendFences : Cond.selects R_FL y_FL_sendFences y_FL_sendFences ∈ fw_ws := List.mem_filter.mpr ⟨List.mem_append_left _ (List.mem_map.mpr ⟨(y_FL_sendFences, 10), by decide +kernel, rfl⟩), rfl⟩
theorem wsel_FL_sendStep : Cond.selects R_FL y_FL_sendStep y_FL_sendStep ∈ fw_ws := List.mem_filter.mpr ⟨List.mem_append_left _ (List.mem_map.mpr ⟨(y_FL_sendStep, 10), by decide +kernel, rfl⟩), rfl⟩
theorem wsel_FL_sendToSet : Cond.selects R_FL y_FL_sendToSet y_FL_sendToSet ∈ fw_ws := List.mem_filter.mpr ⟨List.mem_append_left _ (List.mem_map.mpr ⟨(y_FL_sendToSet, 10), by decide +kernel, rfl⟩), rfl⟩
theorem wsel_FL_sendWritersAdd : Cond.selects R_FL y_FL_sendWritersAdd y_FL_sendWritersAdd ∈ fw_ws := List.mem_filter.mpr ⟨List.mem_append_left _ (List.mem_map.mpr ⟨(y_FL_sendWritersAdd, 10), by decide +kernel, rfl⟩), rfl⟩
theorem wsel_FL_setMember : Cond.selects R_FL y_FL_setMember y_FL_setMember ∈ fw_ws := List.mem_filter.mpr ⟨List.mem_append_left _ (List.mem_map.mpr ⟨(y_FL_setMember, 10), by decide +kernel, rfl⟩), rfl⟩
theorem wsel_FL_shutLedger : Cond.selects R_FL y_FL_shutLedger y_FL_shutLedger ∈ fw_ws := List.mem_filter.mpr ⟨List.mem_append_left _ (List.mem_map.mpr ⟨(y_FL_shutLedger, 10), by decide +kernel, rfl⟩), rfl⟩
theorem wsel_MD_ackCount : Cond.selects R_MD y_MD_ackCount y_MD_ackCount ∈ fw_ws := List.mem_filter.mpr ⟨List.mem_append_left _ (List.mem_map.mpr ⟨(y_MD_ackCount, 25), by decide +kernel, rfl⟩), rfl⟩
theorem wsel_MD_answerCount : Cond.selects R_MD y_MD_answerCount y_MD_answerCount ∈ fw_ws := List.mem_filter.mpr ⟨List.mem_append_left _ (List.mem_map.mpr ⟨(y_MD_answerCount, 25), by decide +kernel, rfl⟩), rfl⟩
theorem wsel_MD_ask : Cond.selects R_MD y_MD_ask y_MD_ask ∈ fw_ws := List.mem_filter.mpr ⟨List.mem_append_left _ (List.mem_map.mpr ⟨(y_MD_ask, 25), by decide +kernel, rfl⟩), rfl⟩
theorem wsel_MD_busy : Cond.selects R_MD y_MD_busy y_MD_busy ∈ fw_ws := List.mem_filter.mpr ⟨List.mem_append_left _ (List.mem_map.mpr ⟨(y_MD_busy, 25), by decide +kernel, rfl⟩), rfl⟩
theorem wsel_MD_covers : Cond.selects R_MD y_MD_covers y_MD_covers ∈ fw_ws := List.mem_filter.mpr ⟨List.mem_append_left _ (List.mem_map.mpr ⟨(y_MD_covers, 25), by decide +kernel, rfl⟩), rfl⟩
theorem wsel_MD_fence : Cond.selects R_MD y_MD_fence y_MD_fence ∈ fw_ws := List.mem_filter.mpr ⟨List.mem_append_left _ (List.mem_map.mpr ⟨(y_MD_fence, 25), by decide +kernel, rfl⟩), rfl⟩
theorem wsel_MD_finish : Cond.selects R_MD y_MD_finish y_MD_finish ∈ fw_ws := List.mem_filter.mpr ⟨List.mem_append_left _ (List.mem_map.mpr ⟨(y_MD_finish, 25), by decide +kernel, rfl⟩), rfl⟩
theorem wsel_MD_forget : Cond.selects R_MD y_MD_forget y_MD_forget ∈ fw_ws := List.mem_filter.mpr ⟨List.mem_append_left _ (List.mem_map.mpr ⟨(y_MD_forget, 25), by decide +kernel, rfl⟩), rfl⟩
theorem wsel_MD_hears : Cond.selects R_MD y_MD_hears y_MD_hears ∈ fw_ws := List.mem_filter.mpr ⟨List.mem_append_left _ (List.mem_map.mpr ⟨(y_MD_hears, 25), by decide +kernel, rfl⟩), rfl⟩
theorem wsel_MD_isMessage : Cond.selects R_MD y_MD_isMessage y_MD_isMessage ∈ fw_ws := List.mem_filter.mpr ⟨List.mem_append_left _ (List.mem_map.mpr ⟨(y_MD_isMessage, 25), by decide +kernel, rfl⟩), rfl⟩
theorem wsel_MD_isStore : Cond.selects R_MD y_MD_isStore y_MD_isStore ∈ fw_ws := List.mem_filter.mpr ⟨List.mem_append_left _ (List.mem_map.mpr ⟨(y_MD_isStore, 25), by decide +kernel, rfl⟩), rfl⟩
theorem wsel_MD_keep : Cond.selects R_MD y_MD_keep y_MD_keep ∈ fw_ws := List.mem_filter.mpr ⟨List.mem_append_left _ (List.mem_map.mpr ⟨(y_MD_keep, 25), by decide +kernel, rfl⟩), rfl⟩
theorem wsel_MD_learns : Cond.selects R_MD y_MD_learns y_MD_learns ∈ fw_ws := List.mem_filter.mpr ⟨List.mem_append_left _ (List.mem_map.mpr ⟨(y_MD_learns, 25), by decide +kernel, rfl⟩), rfl⟩
theorem wsel_MD_readOn : Cond.selects R_MD y_MD_readOn y_MD_readOn ∈ fw_ws := List.mem_filter.mpr ⟨List.mem_append_left _ (List.mem_map.mpr ⟨(y_MD_readOn, 25), by decide +kernel, rfl⟩), rfl⟩
theorem wsel_MD_remove : Cond.selects R_MD y_MD_remove y_MD_remove ∈ fw_ws := List.mem_filter.mpr ⟨List.mem_append_left _ (List.mem_map.mpr ⟨(y_MD_remove, 25), by decide +kernel, rfl⟩), rfl⟩
theorem wsel_MD_send : Cond.selects R_MD y_MD_send y_MD_send ∈ fw_ws := List.mem_filter.mpr ⟨List.mem_append_left _ (List.mem_map.mpr ⟨(y_MD_send, 25), by decide +kernel, rfl⟩), rfl⟩
theorem wsel_MD_spread : Cond.selects R_MD y_MD_spread y_MD_spread ∈ fw_ws := List.mem_filter.mpr ⟨List.mem_append_left _ (List.mem_map.mpr ⟨(y_MD_spread, 25), by decide +kernel, rfl⟩), rfl⟩
theorem wsel_MS_detail : Cond.selects R_MS y_MS_detail y_MS_detail ∈ fw_ws := List.mem_filter.mpr ⟨List.mem_append_left _ (List.mem_map.mpr ⟨(y_MS_detail, 7), by decide +kernel, rfl⟩), rfl⟩
theorem wsel_MS_isToStore : Cond.selects R_MS y_MS_isToStore y_MS_isToStore ∈ fw_ws := List.mem_filter.mpr ⟨List.mem_append_left _ (List.mem_map.mpr ⟨(y_MS_isToStore, 7), by decide +kernel, rfl⟩), rfl⟩
theorem wsel_RC_awaits : Cond.selects R_RC y_RC_awaits y_RC_awaits ∈ fw_ws := List.mem_filter.mpr ⟨List.mem_append_left _ (List.mem_map.mpr ⟨(y_RC_awaits, 7), by decide +kernel, rfl⟩), rfl⟩
theorem wsel_RC_beginFencing : Cond.selects R_RC y_RC_beginFencing y_RC_beginFencing ∈ fw_ws := List.mem_filter.mpr ⟨List.mem_append_left _ (List.mem_map.mpr ⟨(y_RC_beginFencing, 7), by decide +kernel, rfl⟩), rfl⟩
theorem wsel_RC_beginReading : Cond.selects R_RC y_RC_beginReading y_RC_beginReading ∈ fw_ws := List.mem_filter.mpr ⟨List.mem_append_left _ (List.mem_map.mpr ⟨(y_RC_beginReading, 7), by decide +kernel, rfl⟩), rfl⟩
theorem wsel_RC_beginWritingBack : Cond.selects R_RC y_RC_beginWritingBack y_RC_beginWritingBack ∈ fw_ws := List.mem_filter.mpr ⟨List.mem_append_left _ (List.mem_map.mpr ⟨(y_RC_beginWritingBack, 7), by decide +kernel, rfl⟩), rfl⟩
theorem wsel_RC_countAnswered : Cond.selects R_RC y_RC_countAnswered y_RC_countAnswered ∈ fw_ws := List.mem_filter.mpr ⟨List.mem_append_left _ (List.mem_map.mpr ⟨(y_RC_countAnswered, 7), by decide +kernel, rfl⟩), rfl⟩
theorem wsel_RC_detail : Cond.selects R_RC y_RC_detail y_RC_detail ∈ fw_ws := List.mem_filter.mpr ⟨List.mem_append_left _ (List.mem_map.mpr ⟨(y_RC_detail, 7), by decide +kernel, rfl⟩), rfl⟩
theorem wsel_RC_isBusy : Cond.selects R_RC y_RC_isBusy y_RC_isBusy ∈ fw_ws := List.mem_filter.mpr ⟨List.mem_append_left _ (List.mem_map.mpr ⟨(y_RC_isBusy, 7), by decide +kernel, rfl⟩), rfl⟩
theorem wsel_RC_noteAnswer : Cond.selects R_RC y_RC_noteAnswer y_RC_noteAnswer ∈ fw_ws := List.mem_filter.mpr ⟨List.mem_append_left _ (List.mem_map.mpr ⟨(y_RC_noteAnswer, 7), by decide +kernel, rfl⟩), rfl⟩
theorem wsel_ST_detail : Cond.selects R_ST y_ST_detail y_ST_detail ∈ fw_ws := List.mem_filter.mpr ⟨List.mem_append_left _ (List.mem_map.mpr ⟨(y_ST_detail, 6), by decide +kernel, rfl⟩), rfl⟩
theorem wsel_ST_keep : Cond.selects R_ST y_ST_keep y_ST_keep ∈ fw_ws := List.mem_filter.mpr ⟨List.mem_append_left _ (List.mem_map.mpr ⟨(y_ST_keep, 6), by decide +kernel, rfl⟩), rfl⟩
theorem wsel_WR_advanceLac : Cond.selects R_WR y_WR_advanceLac y_WR_advanceLac ∈ fw_ws := List.mem_filter.mpr ⟨List.mem_append_left _ (List.mem_map.mpr ⟨(y_WR_advanceLac, 5), by decide +kernel, rfl⟩), rfl⟩
theorem wsel_WR_countAnswers : Cond.selects R_WR y_WR_countAnswers y_WR_countAnswers ∈ fw_ws := List.mem_filter.mpr ⟨List.mem_append_left _ (List.mem_map.mpr ⟨(y_WR_countAnswers, 5), by decide +kernel, rfl⟩), rfl⟩
theorem wsel_WR_hear : Cond.selects R_WR y_WR_hear y_WR_hear ∈ fw_ws := List.mem_filter.mpr ⟨List.mem_append_left _ (List.mem_map.mpr ⟨(y_WR_hear, 5), by decide +kernel, rfl⟩), rfl⟩
theorem wsel_WR_knows : Cond.selects R_WR y_WR_knows y_WR_knows ∈ fw_ws := List.mem_filter.mpr ⟨List.mem_append_left _ (List.mem_map.mpr ⟨(y_WR_knows, 5), by decide +kernel, rfl⟩), rfl⟩
theorem iw_CH {a : Cond} : ∀ w ∈ u_ws R_CH T_CH 3, w ∈ a :: fw_ws := by
  intro w hw
  refine List.mem_cons_of_mem _ ?_
  obtain ⟨k, hk, rfl⟩ := List.mem_map.mp hw
  rw [List.mem_range] at hk
  match k, hk with
  | 0, _ => exact wq_1_123
  | 1, _ => exact wq_1_125
  | 2, _ => exact wq_1_127
  | k + 3, hk => exact absurd hk (by omega)
theorem iw_MS {a : Cond} : ∀ w ∈ u_ws R_MS T_MS 7, w ∈ a :: fw_ws := by
  intro w hw
  refine List.mem_cons_of_mem _ ?_
  obtain ⟨k, hk, rfl⟩ := List.mem_map.mp hw
  rw [List.mem_range] at hk
  match k, hk with
  | 0, _ => exact wq_1_103
  | 1, _ => exact wq_1_105
  | 2, _ => exact wq_1_107
  | 3, _ => exact wq_1_109
  | 4, _ => exact wq_1_111
  | 5, _ => exact wq_1_113
  | 6, _ => exact wq_1_115
  | k + 7, hk => exact absurd hk (by omega)
theorem iw_RC {a : Cond} : ∀ w ∈ u_ws R_RC T_RC 7, w ∈ a :: fw_ws := by
  intro w hw
  refine List.mem_cons_of_mem _ ?_
  obtain ⟨k, hk, rfl⟩ := List.mem_map.mp hw
  rw [List.mem_range] at hk
  match k, hk with
  | 0, _ => exact wq_1_178
  | 1, _ => exact wq_1_180
  | 2, _ => exact wq_1_182
  | 3, _ => exact wq_1_184
  | 4, _ => exact wq_1_186
  | 5, _ => exact wq_1_188
  | 6, _ => exact wq_1_190
  | k + 7, hk => exact absurd hk (by omega)
theorem iw_ST {a : Cond} : ∀ w ∈ u_ws R_ST T_ST 6, w ∈ a :: fw_ws := by
  intro w hw
  refine List.mem_cons_of_mem _ ?_
  obtain ⟨k, hk, rfl⟩ := List.mem_map.mp hw
  rw [List.mem_range] at hk
  match k, hk with
  | 0, _ => exact wq_1_51
  | 1, _ => exact wq_1_53
  | 2, _ => exact wq_1_55
  | 3, _ => exact wq_1_57
  | 4, _ => exact wq_1_59
  | 5, _ => exact wq_1_61
  | k + 6, hk => exact absurd hk (by omega)
theorem iw_WR {a : Cond} : ∀ w ∈ u_ws R_WR T_WR 5, w ∈ a :: fw_ws := by
  intro w hw
  refine List.mem_cons_of_mem _ ?_
  obtain ⟨k, hk, rfl⟩ := List.mem_map.mp hw
  rw [List.mem_range] at hk
  match k, hk with
  | 0, _ => exact wq_1_146
  | 1, _ => exact wq_1_148
  | 2, _ => exact wq_1_150
  | 3, _ => exact wq_1_152
  | 4, _ => exact wq_1_154
  | k + 5, hk => exact absurd hk (by omega)
theorem iw_FL {a : Cond} : ∀ w ∈ u_ws R_FL T_FL 10, w ∈ a :: fw_ws := by
  intro w hw
  refine List.mem_cons_of_mem _ ?_
  obtain ⟨k, hk, rfl⟩ := List.mem_map.mp hw
  rw [List.mem_range] at hk
  match k, hk with
  | 0, _ => exact wq_1_203
  | 1, _ => exact wq_1_205
  | 2, _ => exact wq_1_207
  | 3, _ => exact wq_1_209
  | 4, _ => exact wq_1_211
  | 5, _ => exact wq_1_213
  | 6, _ => exact wq_1_215
  | 7, _ => exact wq_1_217
  | 8, _ => exact wq_1_219
  | 9, _ => exact wq_1_221
  | k + 10, hk => exact absurd hk (by omega)
theorem iw_MD {a : Cond} : ∀ w ∈ u_ws R_MD T_MD 25, w ∈ a :: fw_ws := by
  intro w hw
  refine List.mem_cons_of_mem _ ?_
  obtain ⟨k, hk, rfl⟩ := List.mem_map.mp hw
  rw [List.mem_range] at hk
  match k, hk with
  | 0, _ => exact wq_3_141
  | 1, _ => exact wq_3_143
  | 2, _ => exact wq_3_145
  | 3, _ => exact wq_3_147
  | 4, _ => exact wq_3_149
  | 5, _ => exact wq_3_151
  | 6, _ => exact wq_3_153
  | 7, _ => exact wq_3_155
  | 8, _ => exact wq_3_157
  | 9, _ => exact wq_3_159
  | 10, _ => exact wq_3_161
  | 11, _ => exact wq_3_163
  | 12, _ => exact wq_3_165
  | 13, _ => exact wq_3_167
  | 14, _ => exact wq_3_169
  | 15, _ => exact wq_3_171
  | 16, _ => exact wq_3_173
  | 17, _ => exact wq_3_175
  | 18, _ => exact wq_3_177
  | 19, _ => exact wq_3_179
  | 20, _ => exact wq_3_181
  | 21, _ => exact wq_3_183
  | 22, _ => exact wq_3_185
  | 23, _ => exact wq_3_187
  | 24, _ => exact wq_3_189
  | k + 25, hk => exact absurd hk (by omega)
end
section
theorem d_MS_init_0 : decode b_MS_init 0 = .ok (.aload_n 0, 1) := by decide +kernel
theorem d_MS_init_1 : decode b_MS_init 1 = .ok (.invokespecial 3, 3) := by decide +kernel
theorem d_MS_init_4 : decode b_MS_init 4 = .ok (.aload_n 0, 1) := by decide +kernel
theorem d_MS_init_5 : decode b_MS_init 5 = .ok (.iconst 0, 1) := by decide +kernel
theorem d_MS_init_6 : decode b_MS_init 6 = .ok (.putfield 9, 3) := by decide +kernel
theorem d_MS_init_9 : decode b_MS_init 9 = .ok (.aload_n 0, 1) := by decide +kernel
theorem d_MS_init_10 : decode b_MS_init 10 = .ok (.iconst 0, 1) := by decide +kernel
theorem d_MS_init_11 : decode b_MS_init 11 = .ok (.putfield 15, 3) := by decide +kernel
theorem d_MS_init_14 : decode b_MS_init 14 = .ok (.aload_n 0, 1) := by decide +kernel
theorem d_MS_init_15 : decode b_MS_init 15 = .ok (.iconst 0, 1) := by decide +kernel
theorem d_MS_init_16 : decode b_MS_init 16 = .ok (.putfield 18, 3) := by decide +kernel
theorem d_MS_init_19 : decode b_MS_init 19 = .ok (.aload_n 0, 1) := by decide +kernel
theorem d_MS_init_20 : decode b_MS_init 20 = .ok (.iconst 0, 1) := by decide +kernel
theorem d_MS_init_21 : decode b_MS_init 21 = .ok (.putfield 21, 3) := by decide +kernel
theorem d_MS_init_24 : decode b_MS_init 24 = .ok (.aload_n 0, 1) := by decide +kernel
theorem d_MS_init_25 : decode b_MS_init 25 = .ok (.iconst 0, 1) := by decide +kernel
theorem d_MS_init_26 : decode b_MS_init 26 = .ok (.putfield 24, 3) := by decide +kernel
theorem d_MS_init_29 : decode b_MS_init 29 = .ok (.aload_n 0, 1) := by decide +kernel
theorem d_MS_init_30 : decode b_MS_init 30 = .ok (.iconst 0, 1) := by decide +kernel
theorem d_MS_init_31 : decode b_MS_init 31 = .ok (.putfield 27, 3) := by decide +kernel
theorem d_MS_init_34 : decode b_MS_init 34 = .ok (.aload_n 0, 1) := by decide +kernel
theorem d_MS_init_35 : decode b_MS_init 35 = .ok (.iconst 0, 1) := by decide +kernel
theorem d_MS_init_36 : decode b_MS_init 36 = .ok (.putfield 30, 3) := by decide +kernel
theorem d_MS_init_39 : decode b_MS_init 39 = .ok (.return_, 1) := by decide +kernel
theorem d_CH_init_0 : decode b_CH_init 0 = .ok (.aload_n 0, 1) := by decide +kernel
theorem d_CH_init_1 : decode b_CH_init 1 = .ok (.invokespecial 3, 3) := by decide +kernel
theorem d_CH_init_4 : decode b_CH_init 4 = .ok (.aload_n 0, 1) := by decide +kernel
theorem d_CH_init_5 : decode b_CH_init 5 = .ok (.bipush 20, 2) := by decide +kernel
theorem d_CH_init_7 : decode b_CH_init 7 = .ok (.anewarray 9, 3) := by decide +kernel
theorem d_CH_init_10 : decode b_CH_init 10 = .ok (.putfield 11, 3) := by decide +kernel
theorem d_CH_init_13 : decode b_CH_init 13 = .ok (.aload_n 0, 1) := by decide +kernel
theorem d_CH_init_14 : decode b_CH_init 14 = .ok (.new 9, 3) := by decide +kernel
theorem d_CH_init_17 : decode b_CH_init 17 = .ok (.dup, 1) := by decide +kernel
theorem d_CH_init_18 : decode b_CH_init 18 = .ok (.invokespecial 17, 3) := by decide +kernel
theorem d_CH_init_21 : decode b_CH_init 21 = .ok (.putfield 18, 3) := by decide +kernel
theorem d_CH_init_24 : decode b_CH_init 24 = .ok (.aload_n 0, 1) := by decide +kernel
theorem d_CH_init_25 : decode b_CH_init 25 = .ok (.iconst 0, 1) := by decide +kernel
theorem d_CH_init_26 : decode b_CH_init 26 = .ok (.putfield 22, 3) := by decide +kernel
theorem d_CH_init_29 : decode b_CH_init 29 = .ok (.iconst 0, 1) := by decide +kernel
theorem d_CH_init_30 : decode b_CH_init 30 = .ok (.istore_n 1, 1) := by decide +kernel
theorem d_CH_init_31 : decode b_CH_init 31 = .ok (.iload_n 1, 1) := by decide +kernel
theorem d_CH_init_32 : decode b_CH_init 32 = .ok (.bipush 20, 2) := by decide +kernel
theorem d_CH_init_34 : decode b_CH_init 34 = .ok (.if_icmp .ge 22, 3) := by decide +kernel
theorem d_CH_init_37 : decode b_CH_init 37 = .ok (.aload_n 0, 1) := by decide +kernel
theorem d_CH_init_38 : decode b_CH_init 38 = .ok (.getfield 11, 3) := by decide +kernel
theorem d_CH_init_41 : decode b_CH_init 41 = .ok (.iload_n 1, 1) := by decide +kernel
theorem d_CH_init_42 : decode b_CH_init 42 = .ok (.new 9, 3) := by decide +kernel
theorem d_CH_init_45 : decode b_CH_init 45 = .ok (.dup, 1) := by decide +kernel
theorem d_CH_init_46 : decode b_CH_init 46 = .ok (.invokespecial 17, 3) := by decide +kernel
theorem d_CH_init_49 : decode b_CH_init 49 = .ok (.aastore, 1) := by decide +kernel
theorem d_CH_init_50 : decode b_CH_init 50 = .ok (.iinc 1 1, 3) := by decide +kernel
theorem d_CH_init_53 : decode b_CH_init 53 = .ok (.goto (-22), 3) := by decide +kernel
theorem d_CH_init_56 : decode b_CH_init 56 = .ok (.return_, 1) := by decide +kernel
theorem d_CH_holds_0 : decode b_CH_holds 0 = .ok (.iload_n 1, 1) := by decide +kernel
theorem d_CH_holds_1 : decode b_CH_holds 1 = .ok (.ifCond .lt 15, 3) := by decide +kernel
theorem d_CH_holds_4 : decode b_CH_holds 4 = .ok (.iload_n 1, 1) := by decide +kernel
theorem d_CH_holds_5 : decode b_CH_holds 5 = .ok (.aload_n 0, 1) := by decide +kernel
theorem d_CH_holds_6 : decode b_CH_holds 6 = .ok (.getfield 22, 3) := by decide +kernel
theorem d_CH_holds_9 : decode b_CH_holds 9 = .ok (.if_icmp .ge 7, 3) := by decide +kernel
theorem d_CH_holds_12 : decode b_CH_holds 12 = .ok (.iconst 1, 1) := by decide +kernel
theorem d_CH_holds_13 : decode b_CH_holds 13 = .ok (.goto 4, 3) := by decide +kernel
theorem d_CH_holds_16 : decode b_CH_holds 16 = .ok (.iconst 0, 1) := by decide +kernel
theorem d_CH_holds_17 : decode b_CH_holds 17 = .ok (.ireturn, 1) := by decide +kernel
theorem d_CH_send_0 : decode b_CH_send 0 = .ok (.aload_n 0, 1) := by decide +kernel
theorem d_CH_send_1 : decode b_CH_send 1 = .ok (.getfield 22, 3) := by decide +kernel
theorem d_CH_send_4 : decode b_CH_send 4 = .ok (.bipush 20, 2) := by decide +kernel
theorem d_CH_send_6 : decode b_CH_send 6 = .ok (.if_icmp .lt 4, 3) := by decide +kernel
theorem d_CH_send_9 : decode b_CH_send 9 = .ok (.return_, 1) := by decide +kernel
theorem d_CH_send_10 : decode b_CH_send 10 = .ok (.aload_n 0, 1) := by decide +kernel
theorem d_CH_send_11 : decode b_CH_send 11 = .ok (.getfield 11, 3) := by decide +kernel
theorem d_CH_send_14 : decode b_CH_send 14 = .ok (.aload_n 0, 1) := by decide +kernel
theorem d_CH_send_15 : decode b_CH_send 15 = .ok (.getfield 22, 3) := by decide +kernel
theorem d_CH_send_18 : decode b_CH_send 18 = .ok (.aaload, 1) := by decide +kernel
theorem d_CH_send_19 : decode b_CH_send 19 = .ok (.astore 8, 2) := by decide +kernel
theorem d_CH_send_21 : decode b_CH_send 21 = .ok (.aload 8, 2) := by decide +kernel
theorem d_CH_send_23 : decode b_CH_send 23 = .ok (.iload_n 1, 1) := by decide +kernel
theorem d_CH_send_24 : decode b_CH_send 24 = .ok (.putfield 26, 3) := by decide +kernel
theorem d_CH_send_27 : decode b_CH_send 27 = .ok (.aload 8, 2) := by decide +kernel
theorem d_CH_send_29 : decode b_CH_send 29 = .ok (.iload_n 2, 1) := by decide +kernel
theorem d_CH_send_30 : decode b_CH_send 30 = .ok (.putfield 29, 3) := by decide +kernel
theorem d_CH_send_33 : decode b_CH_send 33 = .ok (.aload 8, 2) := by decide +kernel
theorem d_CH_send_35 : decode b_CH_send 35 = .ok (.iload_n 3, 1) := by decide +kernel
theorem d_CH_send_36 : decode b_CH_send 36 = .ok (.putfield 32, 3) := by decide +kernel
theorem d_CH_send_39 : decode b_CH_send 39 = .ok (.aload 8, 2) := by decide +kernel
theorem d_CH_send_41 : decode b_CH_send 41 = .ok (.iload 4, 2) := by decide +kernel
theorem d_CH_send_43 : decode b_CH_send 43 = .ok (.putfield 35, 3) := by decide +kernel
theorem d_CH_send_46 : decode b_CH_send 46 = .ok (.aload 8, 2) := by decide +kernel
theorem d_CH_send_48 : decode b_CH_send 48 = .ok (.iload 5, 2) := by decide +kernel
theorem d_CH_send_50 : decode b_CH_send 50 = .ok (.putfield 38, 3) := by decide +kernel
theorem d_CH_send_53 : decode b_CH_send 53 = .ok (.aload 8, 2) := by decide +kernel
theorem d_CH_send_55 : decode b_CH_send 55 = .ok (.iload 6, 2) := by decide +kernel
theorem d_CH_send_57 : decode b_CH_send 57 = .ok (.putfield 41, 3) := by decide +kernel
theorem d_CH_send_60 : decode b_CH_send 60 = .ok (.aload 8, 2) := by decide +kernel
theorem d_CH_send_62 : decode b_CH_send 62 = .ok (.iload 7, 2) := by decide +kernel
theorem d_CH_send_64 : decode b_CH_send 64 = .ok (.putfield 44, 3) := by decide +kernel
theorem d_CH_send_67 : decode b_CH_send 67 = .ok (.aload_n 0, 1) := by decide +kernel
theorem d_CH_send_68 : decode b_CH_send 68 = .ok (.dup, 1) := by decide +kernel
theorem d_CH_send_69 : decode b_CH_send 69 = .ok (.getfield 22, 3) := by decide +kernel
theorem d_CH_send_72 : decode b_CH_send 72 = .ok (.iconst 1, 1) := by decide +kernel
theorem d_CH_send_73 : decode b_CH_send 73 = .ok (.iadd, 1) := by decide +kernel
theorem d_CH_send_74 : decode b_CH_send 74 = .ok (.putfield 22, 3) := by decide +kernel
theorem d_CH_send_77 : decode b_CH_send 77 = .ok (.return_, 1) := by decide +kernel
theorem d_CH_takeOut_0 : decode b_CH_takeOut 0 = .ok (.aload_n 0, 1) := by decide +kernel
theorem d_CH_takeOut_1 : decode b_CH_takeOut 1 = .ok (.getfield 18, 3) := by decide +kernel
theorem d_CH_takeOut_4 : decode b_CH_takeOut 4 = .ok (.astore_n 2, 1) := by decide +kernel
theorem d_CH_takeOut_5 : decode b_CH_takeOut 5 = .ok (.aload_n 0, 1) := by decide +kernel
theorem d_CH_takeOut_6 : decode b_CH_takeOut 6 = .ok (.aload_n 0, 1) := by decide +kernel
theorem d_CH_takeOut_7 : decode b_CH_takeOut 7 = .ok (.getfield 11, 3) := by decide +kernel
theorem d_CH_takeOut_10 : decode b_CH_takeOut 10 = .ok (.iload_n 1, 1) := by decide +kernel
theorem d_CH_takeOut_11 : decode b_CH_takeOut 11 = .ok (.aaload, 1) := by decide +kernel
theorem d_CH_takeOut_12 : decode b_CH_takeOut 12 = .ok (.putfield 18, 3) := by decide +kernel
theorem d_CH_takeOut_15 : decode b_CH_takeOut 15 = .ok (.iload_n 1, 1) := by decide +kernel
theorem d_CH_takeOut_16 : decode b_CH_takeOut 16 = .ok (.iconst 1, 1) := by decide +kernel
theorem d_CH_takeOut_17 : decode b_CH_takeOut 17 = .ok (.iadd, 1) := by decide +kernel
theorem d_CH_takeOut_18 : decode b_CH_takeOut 18 = .ok (.istore_n 3, 1) := by decide +kernel
theorem d_CH_takeOut_19 : decode b_CH_takeOut 19 = .ok (.iload_n 3, 1) := by decide +kernel
theorem d_CH_takeOut_20 : decode b_CH_takeOut 20 = .ok (.aload_n 0, 1) := by decide +kernel
theorem d_CH_takeOut_21 : decode b_CH_takeOut 21 = .ok (.getfield 22, 3) := by decide +kernel
theorem d_CH_takeOut_24 : decode b_CH_takeOut 24 = .ok (.if_icmp .ge 23, 3) := by decide +kernel
theorem d_CH_takeOut_27 : decode b_CH_takeOut 27 = .ok (.aload_n 0, 1) := by decide +kernel
theorem d_CH_takeOut_28 : decode b_CH_takeOut 28 = .ok (.getfield 11, 3) := by decide +kernel
theorem d_CH_takeOut_31 : decode b_CH_takeOut 31 = .ok (.iload_n 3, 1) := by decide +kernel
theorem d_CH_takeOut_32 : decode b_CH_takeOut 32 = .ok (.iconst 1, 1) := by decide +kernel
theorem d_CH_takeOut_33 : decode b_CH_takeOut 33 = .ok (.isub, 1) := by decide +kernel
theorem d_CH_takeOut_34 : decode b_CH_takeOut 34 = .ok (.aload_n 0, 1) := by decide +kernel
theorem d_CH_takeOut_35 : decode b_CH_takeOut 35 = .ok (.getfield 11, 3) := by decide +kernel
theorem d_CH_takeOut_38 : decode b_CH_takeOut 38 = .ok (.iload_n 3, 1) := by decide +kernel
theorem d_CH_takeOut_39 : decode b_CH_takeOut 39 = .ok (.aaload, 1) := by decide +kernel
theorem d_CH_takeOut_40 : decode b_CH_takeOut 40 = .ok (.aastore, 1) := by decide +kernel
theorem d_CH_takeOut_41 : decode b_CH_takeOut 41 = .ok (.iinc 3 1, 3) := by decide +kernel
theorem d_CH_takeOut_44 : decode b_CH_takeOut 44 = .ok (.goto (-25), 3) := by decide +kernel
theorem d_CH_takeOut_47 : decode b_CH_takeOut 47 = .ok (.aload_n 0, 1) := by decide +kernel
theorem d_CH_takeOut_48 : decode b_CH_takeOut 48 = .ok (.dup, 1) := by decide +kernel
theorem d_CH_takeOut_49 : decode b_CH_takeOut 49 = .ok (.getfield 22, 3) := by decide +kernel
theorem d_CH_takeOut_52 : decode b_CH_takeOut 52 = .ok (.iconst 1, 1) := by decide +kernel
theorem d_CH_takeOut_53 : decode b_CH_takeOut 53 = .ok (.isub, 1) := by decide +kernel
theorem d_CH_takeOut_54 : decode b_CH_takeOut 54 = .ok (.putfield 22, 3) := by decide +kernel
theorem d_CH_takeOut_57 : decode b_CH_takeOut 57 = .ok (.aload_n 0, 1) := by decide +kernel
theorem d_CH_takeOut_58 : decode b_CH_takeOut 58 = .ok (.getfield 11, 3) := by decide +kernel
theorem d_CH_takeOut_61 : decode b_CH_takeOut 61 = .ok (.aload_n 0, 1) := by decide +kernel
theorem d_CH_takeOut_62 : decode b_CH_takeOut 62 = .ok (.getfield 22, 3) := by decide +kernel
theorem d_CH_takeOut_65 : decode b_CH_takeOut 65 = .ok (.aload_n 2, 1) := by decide +kernel
theorem d_CH_takeOut_66 : decode b_CH_takeOut 66 = .ok (.aastore, 1) := by decide +kernel
theorem d_CH_takeOut_67 : decode b_CH_takeOut 67 = .ok (.aload_n 0, 1) := by decide +kernel
theorem d_CH_takeOut_68 : decode b_CH_takeOut 68 = .ok (.getfield 18, 3) := by decide +kernel
theorem d_CH_takeOut_71 : decode b_CH_takeOut 71 = .ok (.areturn, 1) := by decide +kernel
theorem d_MS_isToStore_0 : decode b_MS_isToStore 0 = .ok (.aload_n 0, 1) := by decide +kernel
theorem d_MS_isToStore_1 : decode b_MS_isToStore 1 = .ok (.getfield 9, 3) := by decide +kernel
theorem d_MS_isToStore_4 : decode b_MS_isToStore 4 = .ok (.ifCond .eq 19, 3) := by decide +kernel
theorem d_MS_isToStore_7 : decode b_MS_isToStore 7 = .ok (.aload_n 0, 1) := by decide +kernel
theorem d_MS_isToStore_8 : decode b_MS_isToStore 8 = .ok (.getfield 9, 3) := by decide +kernel
theorem d_MS_isToStore_11 : decode b_MS_isToStore 11 = .ok (.iconst 1, 1) := by decide +kernel
theorem d_MS_isToStore_12 : decode b_MS_isToStore 12 = .ok (.if_icmp .eq 11, 3) := by decide +kernel
theorem d_MS_isToStore_15 : decode b_MS_isToStore 15 = .ok (.aload_n 0, 1) := by decide +kernel
theorem d_MS_isToStore_16 : decode b_MS_isToStore 16 = .ok (.getfield 9, 3) := by decide +kernel
theorem d_MS_isToStore_19 : decode b_MS_isToStore 19 = .ok (.iconst 2, 1) := by decide +kernel
theorem d_MS_isToStore_20 : decode b_MS_isToStore 20 = .ok (.if_icmp .ne 7, 3) := by decide +kernel
theorem d_MS_isToStore_23 : decode b_MS_isToStore 23 = .ok (.iconst 1, 1) := by decide +kernel
theorem d_MS_isToStore_24 : decode b_MS_isToStore 24 = .ok (.goto 4, 3) := by decide +kernel
theorem d_MS_isToStore_27 : decode b_MS_isToStore 27 = .ok (.iconst 0, 1) := by decide +kernel
theorem d_MS_isToStore_28 : decode b_MS_isToStore 28 = .ok (.ireturn, 1) := by decide +kernel
theorem d_MS_detail_0 : decode b_MS_detail 0 = .ok (.iload_n 1, 1) := by decide +kernel
theorem d_MS_detail_1 : decode b_MS_detail 1 = .ok (.tableswitch 78 0 6 #[43, 48, 53, 58, 63, 68, 73], 43) := by decide +kernel
theorem d_MS_detail_44 : decode b_MS_detail 44 = .ok (.aload_n 0, 1) := by decide +kernel
theorem d_MS_detail_45 : decode b_MS_detail 45 = .ok (.getfield 9, 3) := by decide +kernel
theorem d_MS_detail_48 : decode b_MS_detail 48 = .ok (.ireturn, 1) := by decide +kernel
theorem d_MS_detail_49 : decode b_MS_detail 49 = .ok (.aload_n 0, 1) := by decide +kernel
theorem d_MS_detail_50 : decode b_MS_detail 50 = .ok (.getfield 15, 3) := by decide +kernel
theorem d_MS_detail_53 : decode b_MS_detail 53 = .ok (.ireturn, 1) := by decide +kernel
theorem d_MS_detail_54 : decode b_MS_detail 54 = .ok (.aload_n 0, 1) := by decide +kernel
theorem d_MS_detail_55 : decode b_MS_detail 55 = .ok (.getfield 18, 3) := by decide +kernel
theorem d_MS_detail_58 : decode b_MS_detail 58 = .ok (.ireturn, 1) := by decide +kernel
theorem d_MS_detail_59 : decode b_MS_detail 59 = .ok (.aload_n 0, 1) := by decide +kernel
theorem d_MS_detail_60 : decode b_MS_detail 60 = .ok (.getfield 21, 3) := by decide +kernel
theorem d_MS_detail_63 : decode b_MS_detail 63 = .ok (.ireturn, 1) := by decide +kernel
theorem d_MS_detail_64 : decode b_MS_detail 64 = .ok (.aload_n 0, 1) := by decide +kernel
theorem d_MS_detail_65 : decode b_MS_detail 65 = .ok (.getfield 24, 3) := by decide +kernel
theorem d_MS_detail_68 : decode b_MS_detail 68 = .ok (.ireturn, 1) := by decide +kernel
theorem d_MS_detail_69 : decode b_MS_detail 69 = .ok (.aload_n 0, 1) := by decide +kernel
theorem d_MS_detail_70 : decode b_MS_detail 70 = .ok (.getfield 27, 3) := by decide +kernel
theorem d_MS_detail_73 : decode b_MS_detail 73 = .ok (.ireturn, 1) := by decide +kernel
theorem d_MS_detail_74 : decode b_MS_detail 74 = .ok (.aload_n 0, 1) := by decide +kernel
theorem d_MS_detail_75 : decode b_MS_detail 75 = .ok (.getfield 30, 3) := by decide +kernel
theorem d_MS_detail_78 : decode b_MS_detail 78 = .ok (.ireturn, 1) := by decide +kernel
theorem d_MS_detail_79 : decode b_MS_detail 79 = .ok (.iconst (-1), 1) := by decide +kernel
theorem d_MS_detail_80 : decode b_MS_detail 80 = .ok (.ireturn, 1) := by decide +kernel
theorem d_RC_init_0 : decode b_RC_init 0 = .ok (.aload_n 0, 1) := by decide +kernel
theorem d_RC_init_1 : decode b_RC_init 1 = .ok (.invokespecial 3, 3) := by decide +kernel
theorem d_RC_init_4 : decode b_RC_init 4 = .ok (.aload_n 0, 1) := by decide +kernel
theorem d_RC_init_5 : decode b_RC_init 5 = .ok (.iconst 0, 1) := by decide +kernel
theorem d_RC_init_6 : decode b_RC_init 6 = .ok (.putfield 9, 3) := by decide +kernel
theorem d_RC_init_9 : decode b_RC_init 9 = .ok (.aload_n 0, 1) := by decide +kernel
theorem d_RC_init_10 : decode b_RC_init 10 = .ok (.iconst 0, 1) := by decide +kernel
theorem d_RC_init_11 : decode b_RC_init 11 = .ok (.putfield 15, 3) := by decide +kernel
theorem d_RC_init_14 : decode b_RC_init 14 = .ok (.aload_n 0, 1) := by decide +kernel
theorem d_RC_init_15 : decode b_RC_init 15 = .ok (.iconst 0, 1) := by decide +kernel
theorem d_RC_init_16 : decode b_RC_init 16 = .ok (.putfield 18, 3) := by decide +kernel
theorem d_RC_init_19 : decode b_RC_init 19 = .ok (.aload_n 0, 1) := by decide +kernel
theorem d_RC_init_20 : decode b_RC_init 20 = .ok (.iconst 0, 1) := by decide +kernel
theorem d_RC_init_21 : decode b_RC_init 21 = .ok (.putfield 21, 3) := by decide +kernel
theorem d_RC_init_24 : decode b_RC_init 24 = .ok (.aload_n 0, 1) := by decide +kernel
theorem d_RC_init_25 : decode b_RC_init 25 = .ok (.iconst (-1), 1) := by decide +kernel
theorem d_RC_init_26 : decode b_RC_init 26 = .ok (.putfield 24, 3) := by decide +kernel
theorem d_RC_init_29 : decode b_RC_init 29 = .ok (.aload_n 0, 1) := by decide +kernel
theorem d_RC_init_30 : decode b_RC_init 30 = .ok (.iconst 0, 1) := by decide +kernel
theorem d_RC_init_31 : decode b_RC_init 31 = .ok (.putfield 27, 3) := by decide +kernel
theorem d_RC_init_34 : decode b_RC_init 34 = .ok (.aload_n 0, 1) := by decide +kernel
theorem d_RC_init_35 : decode b_RC_init 35 = .ok (.iload_n 1, 1) := by decide +kernel
theorem d_RC_init_36 : decode b_RC_init 36 = .ok (.putfield 30, 3) := by decide +kernel
theorem d_RC_init_39 : decode b_RC_init 39 = .ok (.return_, 1) := by decide +kernel
theorem d_RC_isBusy_0 : decode b_RC_isBusy 0 = .ok (.aload_n 0, 1) := by decide +kernel
theorem d_RC_isBusy_1 : decode b_RC_isBusy 1 = .ok (.getfield 9, 3) := by decide +kernel
theorem d_RC_isBusy_4 : decode b_RC_isBusy 4 = .ok (.ifCond .eq 15, 3) := by decide +kernel
theorem d_RC_isBusy_7 : decode b_RC_isBusy 7 = .ok (.aload_n 0, 1) := by decide +kernel
theorem d_RC_isBusy_8 : decode b_RC_isBusy 8 = .ok (.getfield 9, 3) := by decide +kernel
theorem d_RC_isBusy_11 : decode b_RC_isBusy 11 = .ok (.iconst 4, 1) := by decide +kernel
theorem d_RC_isBusy_12 : decode b_RC_isBusy 12 = .ok (.if_icmp .eq 7, 3) := by decide +kernel
theorem d_RC_isBusy_15 : decode b_RC_isBusy 15 = .ok (.iconst 1, 1) := by decide +kernel
theorem d_RC_isBusy_16 : decode b_RC_isBusy 16 = .ok (.goto 4, 3) := by decide +kernel
theorem d_RC_isBusy_19 : decode b_RC_isBusy 19 = .ok (.iconst 0, 1) := by decide +kernel
theorem d_RC_isBusy_20 : decode b_RC_isBusy 20 = .ok (.ireturn, 1) := by decide +kernel
theorem d_RC_awaits_0 : decode b_RC_awaits 0 = .ok (.aload_n 0, 1) := by decide +kernel
theorem d_RC_awaits_1 : decode b_RC_awaits 1 = .ok (.getfield 9, 3) := by decide +kernel
theorem d_RC_awaits_4 : decode b_RC_awaits 4 = .ok (.iload_n 1, 1) := by decide +kernel
theorem d_RC_awaits_5 : decode b_RC_awaits 5 = .ok (.if_icmp .ne 15, 3) := by decide +kernel
theorem d_RC_awaits_8 : decode b_RC_awaits 8 = .ok (.aload_n 0, 1) := by decide +kernel
theorem d_RC_awaits_9 : decode b_RC_awaits 9 = .ok (.getfield 18, 3) := by decide +kernel
theorem d_RC_awaits_12 : decode b_RC_awaits 12 = .ok (.iload_n 2, 1) := by decide +kernel
theorem d_RC_awaits_13 : decode b_RC_awaits 13 = .ok (.if_icmp .ne 7, 3) := by decide +kernel
theorem d_RC_awaits_16 : decode b_RC_awaits 16 = .ok (.iconst 1, 1) := by decide +kernel
theorem d_RC_awaits_17 : decode b_RC_awaits 17 = .ok (.goto 4, 3) := by decide +kernel
theorem d_RC_awaits_20 : decode b_RC_awaits 20 = .ok (.iconst 0, 1) := by decide +kernel
theorem d_RC_awaits_21 : decode b_RC_awaits 21 = .ok (.ireturn, 1) := by decide +kernel
theorem d_RC_beginFencing_0 : decode b_RC_beginFencing 0 = .ok (.aload_n 0, 1) := by decide +kernel
theorem d_RC_beginFencing_1 : decode b_RC_beginFencing 1 = .ok (.iload_n 1, 1) := by decide +kernel
theorem d_RC_beginFencing_2 : decode b_RC_beginFencing 2 = .ok (.putfield 15, 3) := by decide +kernel
theorem d_RC_beginFencing_5 : decode b_RC_beginFencing 5 = .ok (.aload_n 0, 1) := by decide +kernel
theorem d_RC_beginFencing_6 : decode b_RC_beginFencing 6 = .ok (.iconst 0, 1) := by decide +kernel
theorem d_RC_beginFencing_7 : decode b_RC_beginFencing 7 = .ok (.putfield 21, 3) := by decide +kernel
theorem d_RC_beginFencing_10 : decode b_RC_beginFencing 10 = .ok (.aload_n 0, 1) := by decide +kernel
theorem d_RC_beginFencing_11 : decode b_RC_beginFencing 11 = .ok (.iconst (-1), 1) := by decide +kernel
theorem d_RC_beginFencing_12 : decode b_RC_beginFencing 12 = .ok (.putfield 24, 3) := by decide +kernel
theorem d_RC_beginFencing_15 : decode b_RC_beginFencing 15 = .ok (.aload_n 0, 1) := by decide +kernel
theorem d_RC_beginFencing_16 : decode b_RC_beginFencing 16 = .ok (.iconst 1, 1) := by decide +kernel
theorem d_RC_beginFencing_17 : decode b_RC_beginFencing 17 = .ok (.putfield 9, 3) := by decide +kernel
theorem d_RC_beginFencing_20 : decode b_RC_beginFencing 20 = .ok (.return_, 1) := by decide +kernel
theorem d_RC_beginReading_0 : decode b_RC_beginReading 0 = .ok (.aload_n 0, 1) := by decide +kernel
theorem d_RC_beginReading_1 : decode b_RC_beginReading 1 = .ok (.iload_n 1, 1) := by decide +kernel
theorem d_RC_beginReading_2 : decode b_RC_beginReading 2 = .ok (.putfield 18, 3) := by decide +kernel
theorem d_RC_beginReading_5 : decode b_RC_beginReading 5 = .ok (.aload_n 0, 1) := by decide +kernel
theorem d_RC_beginReading_6 : decode b_RC_beginReading 6 = .ok (.iconst 0, 1) := by decide +kernel
theorem d_RC_beginReading_7 : decode b_RC_beginReading 7 = .ok (.putfield 21, 3) := by decide +kernel
theorem d_RC_beginReading_10 : decode b_RC_beginReading 10 = .ok (.aload_n 0, 1) := by decide +kernel
theorem d_RC_beginReading_11 : decode b_RC_beginReading 11 = .ok (.iconst 2, 1) := by decide +kernel
theorem d_RC_beginReading_12 : decode b_RC_beginReading 12 = .ok (.putfield 9, 3) := by decide +kernel
theorem d_RC_beginReading_15 : decode b_RC_beginReading 15 = .ok (.return_, 1) := by decide +kernel
theorem d_RC_beginWritingBack_0 : decode b_RC_beginWritingBack 0 = .ok (.aload_n 0, 1) := by decide +kernel
theorem d_RC_beginWritingBack_1 : decode b_RC_beginWritingBack 1 = .ok (.iload_n 1, 1) := by decide +kernel
theorem d_RC_beginWritingBack_2 : decode b_RC_beginWritingBack 2 = .ok (.putfield 27, 3) := by decide +kernel
theorem d_RC_beginWritingBack_5 : decode b_RC_beginWritingBack 5 = .ok (.aload_n 0, 1) := by decide +kernel
theorem d_RC_beginWritingBack_6 : decode b_RC_beginWritingBack 6 = .ok (.iconst 0, 1) := by decide +kernel
theorem d_RC_beginWritingBack_7 : decode b_RC_beginWritingBack 7 = .ok (.putfield 21, 3) := by decide +kernel
theorem d_RC_beginWritingBack_10 : decode b_RC_beginWritingBack 10 = .ok (.aload_n 0, 1) := by decide +kernel
theorem d_RC_beginWritingBack_11 : decode b_RC_beginWritingBack 11 = .ok (.iconst 3, 1) := by decide +kernel
theorem d_RC_beginWritingBack_12 : decode b_RC_beginWritingBack 12 = .ok (.putfield 9, 3) := by decide +kernel
theorem d_RC_beginWritingBack_15 : decode b_RC_beginWritingBack 15 = .ok (.return_, 1) := by decide +kernel
theorem d_RC_noteAnswer_0 : decode b_RC_noteAnswer 0 = .ok (.aload_n 0, 1) := by decide +kernel
theorem d_RC_noteAnswer_1 : decode b_RC_noteAnswer 1 = .ok (.dup, 1) := by decide +kernel
theorem d_RC_noteAnswer_2 : decode b_RC_noteAnswer 2 = .ok (.getfield 21, 3) := by decide +kernel
theorem d_RC_noteAnswer_5 : decode b_RC_noteAnswer 5 = .ok (.iconst 1, 1) := by decide +kernel
theorem d_RC_noteAnswer_6 : decode b_RC_noteAnswer 6 = .ok (.iload_n 1, 1) := by decide +kernel
theorem d_RC_noteAnswer_7 : decode b_RC_noteAnswer 7 = .ok (.ishl, 1) := by decide +kernel
theorem d_RC_noteAnswer_8 : decode b_RC_noteAnswer 8 = .ok (.ior, 1) := by decide +kernel
theorem d_RC_noteAnswer_9 : decode b_RC_noteAnswer 9 = .ok (.putfield 21, 3) := by decide +kernel
theorem d_RC_noteAnswer_12 : decode b_RC_noteAnswer 12 = .ok (.return_, 1) := by decide +kernel
theorem d_JI_bitCount_0 : decode b_JI_bitCount 0 = .ok (.iload_n 0, 1) := by decide +kernel
theorem d_JI_bitCount_1 : decode b_JI_bitCount 1 = .ok (.iload_n 0, 1) := by decide +kernel
theorem d_JI_bitCount_2 : decode b_JI_bitCount 2 = .ok (.iconst 1, 1) := by decide +kernel
theorem d_JI_bitCount_3 : decode b_JI_bitCount 3 = .ok (.iushr, 1) := by decide +kernel
theorem d_JI_bitCount_4 : decode b_JI_bitCount 4 = .ok (.ldc_w 265, 3) := by decide +kernel
theorem d_JI_bitCount_7 : decode b_JI_bitCount 7 = .ok (.iand, 1) := by decide +kernel
theorem d_JI_bitCount_8 : decode b_JI_bitCount 8 = .ok (.isub, 1) := by decide +kernel
theorem d_JI_bitCount_9 : decode b_JI_bitCount 9 = .ok (.istore_n 0, 1) := by decide +kernel
theorem d_JI_bitCount_10 : decode b_JI_bitCount 10 = .ok (.iload_n 0, 1) := by decide +kernel
theorem d_JI_bitCount_11 : decode b_JI_bitCount 11 = .ok (.ldc_w 266, 3) := by decide +kernel
theorem d_JI_bitCount_14 : decode b_JI_bitCount 14 = .ok (.iand, 1) := by decide +kernel
theorem d_JI_bitCount_15 : decode b_JI_bitCount 15 = .ok (.iload_n 0, 1) := by decide +kernel
theorem d_JI_bitCount_16 : decode b_JI_bitCount 16 = .ok (.iconst 2, 1) := by decide +kernel
theorem d_JI_bitCount_17 : decode b_JI_bitCount 17 = .ok (.iushr, 1) := by decide +kernel
theorem d_JI_bitCount_18 : decode b_JI_bitCount 18 = .ok (.ldc_w 266, 3) := by decide +kernel
theorem d_JI_bitCount_21 : decode b_JI_bitCount 21 = .ok (.iand, 1) := by decide +kernel
theorem d_JI_bitCount_22 : decode b_JI_bitCount 22 = .ok (.iadd, 1) := by decide +kernel
theorem d_JI_bitCount_23 : decode b_JI_bitCount 23 = .ok (.istore_n 0, 1) := by decide +kernel
theorem d_JI_bitCount_24 : decode b_JI_bitCount 24 = .ok (.iload_n 0, 1) := by decide +kernel
theorem d_JI_bitCount_25 : decode b_JI_bitCount 25 = .ok (.iload_n 0, 1) := by decide +kernel
theorem d_JI_bitCount_26 : decode b_JI_bitCount 26 = .ok (.iconst 4, 1) := by decide +kernel
theorem d_JI_bitCount_27 : decode b_JI_bitCount 27 = .ok (.iushr, 1) := by decide +kernel
theorem d_JI_bitCount_28 : decode b_JI_bitCount 28 = .ok (.iadd, 1) := by decide +kernel
theorem d_JI_bitCount_29 : decode b_JI_bitCount 29 = .ok (.ldc_w 267, 3) := by decide +kernel
theorem d_JI_bitCount_32 : decode b_JI_bitCount 32 = .ok (.iand, 1) := by decide +kernel
theorem d_JI_bitCount_33 : decode b_JI_bitCount 33 = .ok (.istore_n 0, 1) := by decide +kernel
theorem d_JI_bitCount_34 : decode b_JI_bitCount 34 = .ok (.iload_n 0, 1) := by decide +kernel
theorem d_JI_bitCount_35 : decode b_JI_bitCount 35 = .ok (.iload_n 0, 1) := by decide +kernel
theorem d_JI_bitCount_36 : decode b_JI_bitCount 36 = .ok (.bipush 8, 2) := by decide +kernel
theorem d_JI_bitCount_38 : decode b_JI_bitCount 38 = .ok (.iushr, 1) := by decide +kernel
theorem d_JI_bitCount_39 : decode b_JI_bitCount 39 = .ok (.iadd, 1) := by decide +kernel
theorem d_JI_bitCount_40 : decode b_JI_bitCount 40 = .ok (.istore_n 0, 1) := by decide +kernel
theorem d_JI_bitCount_41 : decode b_JI_bitCount 41 = .ok (.iload_n 0, 1) := by decide +kernel
theorem d_JI_bitCount_42 : decode b_JI_bitCount 42 = .ok (.iload_n 0, 1) := by decide +kernel
theorem d_JI_bitCount_43 : decode b_JI_bitCount 43 = .ok (.bipush 16, 2) := by decide +kernel
theorem d_JI_bitCount_45 : decode b_JI_bitCount 45 = .ok (.iushr, 1) := by decide +kernel
theorem d_JI_bitCount_46 : decode b_JI_bitCount 46 = .ok (.iadd, 1) := by decide +kernel
theorem d_JI_bitCount_47 : decode b_JI_bitCount 47 = .ok (.istore_n 0, 1) := by decide +kernel
theorem d_JI_bitCount_48 : decode b_JI_bitCount 48 = .ok (.iload_n 0, 1) := by decide +kernel
theorem d_JI_bitCount_49 : decode b_JI_bitCount 49 = .ok (.bipush 63, 2) := by decide +kernel
theorem d_JI_bitCount_51 : decode b_JI_bitCount 51 = .ok (.iand, 1) := by decide +kernel
theorem d_JI_bitCount_52 : decode b_JI_bitCount 52 = .ok (.ireturn, 1) := by decide +kernel
theorem d_RC_countAnswered_0 : decode b_RC_countAnswered 0 = .ok (.aload_n 0, 1) := by decide +kernel
theorem d_RC_countAnswered_1 : decode b_RC_countAnswered 1 = .ok (.getfield 21, 3) := by decide +kernel
theorem d_RC_countAnswered_4 : decode b_RC_countAnswered 4 = .ok (.invokestatic 33, 3) := by decide +kernel
theorem d_RC_countAnswered_7 : decode b_RC_countAnswered 7 = .ok (.ireturn, 1) := by decide +kernel
theorem d_RC_detail_0 : decode b_RC_detail 0 = .ok (.iload_n 1, 1) := by decide +kernel
theorem d_RC_detail_1 : decode b_RC_detail 1 = .ok (.tableswitch 60 0 4 #[35, 40, 45, 50, 55], 35) := by decide +kernel
theorem d_RC_detail_36 : decode b_RC_detail 36 = .ok (.aload_n 0, 1) := by decide +kernel
theorem d_RC_detail_37 : decode b_RC_detail 37 = .ok (.getfield 9, 3) := by decide +kernel
theorem d_RC_detail_40 : decode b_RC_detail 40 = .ok (.ireturn, 1) := by decide +kernel
theorem d_RC_detail_41 : decode b_RC_detail 41 = .ok (.aload_n 0, 1) := by decide +kernel
theorem d_RC_detail_42 : decode b_RC_detail 42 = .ok (.getfield 15, 3) := by decide +kernel
theorem d_RC_detail_45 : decode b_RC_detail 45 = .ok (.ireturn, 1) := by decide +kernel
theorem d_RC_detail_46 : decode b_RC_detail 46 = .ok (.aload_n 0, 1) := by decide +kernel
theorem d_RC_detail_47 : decode b_RC_detail 47 = .ok (.getfield 18, 3) := by decide +kernel
theorem d_RC_detail_50 : decode b_RC_detail 50 = .ok (.ireturn, 1) := by decide +kernel
theorem d_RC_detail_51 : decode b_RC_detail 51 = .ok (.aload_n 0, 1) := by decide +kernel
theorem d_RC_detail_52 : decode b_RC_detail 52 = .ok (.invokevirtual 39, 3) := by decide +kernel
theorem d_RC_detail_55 : decode b_RC_detail 55 = .ok (.ireturn, 1) := by decide +kernel
theorem d_RC_detail_56 : decode b_RC_detail 56 = .ok (.aload_n 0, 1) := by decide +kernel
theorem d_RC_detail_57 : decode b_RC_detail 57 = .ok (.getfield 24, 3) := by decide +kernel
theorem d_RC_detail_60 : decode b_RC_detail 60 = .ok (.ireturn, 1) := by decide +kernel
theorem d_RC_detail_61 : decode b_RC_detail 61 = .ok (.iconst (-1), 1) := by decide +kernel
theorem d_RC_detail_62 : decode b_RC_detail 62 = .ok (.ireturn, 1) := by decide +kernel
theorem d_ST_init_0 : decode b_ST_init 0 = .ok (.aload_n 0, 1) := by decide +kernel
theorem d_ST_init_1 : decode b_ST_init 1 = .ok (.invokespecial 3, 3) := by decide +kernel
theorem d_ST_init_4 : decode b_ST_init 4 = .ok (.aload_n 0, 1) := by decide +kernel
theorem d_ST_init_5 : decode b_ST_init 5 = .ok (.bipush 20, 2) := by decide +kernel
theorem d_ST_init_7 : decode b_ST_init 7 = .ok (.newarray .boolean, 2) := by decide +kernel
theorem d_ST_init_9 : decode b_ST_init 9 = .ok (.putfield 9, 3) := by decide +kernel
theorem d_ST_init_12 : decode b_ST_init 12 = .ok (.aload_n 0, 1) := by decide +kernel
theorem d_ST_init_13 : decode b_ST_init 13 = .ok (.bipush 20, 2) := by decide +kernel
theorem d_ST_init_15 : decode b_ST_init 15 = .ok (.newarray .int, 2) := by decide +kernel
theorem d_ST_init_17 : decode b_ST_init 17 = .ok (.putfield 15, 3) := by decide +kernel
theorem d_ST_init_20 : decode b_ST_init 20 = .ok (.aload_n 0, 1) := by decide +kernel
theorem d_ST_init_21 : decode b_ST_init 21 = .ok (.iconst 1, 1) := by decide +kernel
theorem d_ST_init_22 : decode b_ST_init 22 = .ok (.putfield 19, 3) := by decide +kernel
theorem d_ST_init_25 : decode b_ST_init 25 = .ok (.aload_n 0, 1) := by decide +kernel
theorem d_ST_init_26 : decode b_ST_init 26 = .ok (.iconst 0, 1) := by decide +kernel
theorem d_ST_init_27 : decode b_ST_init 27 = .ok (.putfield 23, 3) := by decide +kernel
theorem d_ST_init_30 : decode b_ST_init 30 = .ok (.aload_n 0, 1) := by decide +kernel
theorem d_ST_init_31 : decode b_ST_init 31 = .ok (.iconst (-1), 1) := by decide +kernel
theorem d_ST_init_32 : decode b_ST_init 32 = .ok (.putfield 26, 3) := by decide +kernel
theorem d_ST_init_35 : decode b_ST_init 35 = .ok (.aload_n 0, 1) := by decide +kernel
theorem d_ST_init_36 : decode b_ST_init 36 = .ok (.iconst 0, 1) := by decide +kernel
theorem d_ST_init_37 : decode b_ST_init 37 = .ok (.putfield 30, 3) := by decide +kernel
theorem d_ST_init_40 : decode b_ST_init 40 = .ok (.return_, 1) := by decide +kernel
theorem d_ST_keep_0 : decode b_ST_keep 0 = .ok (.aload_n 0, 1) := by decide +kernel
theorem d_ST_keep_1 : decode b_ST_keep 1 = .ok (.getfield 9, 3) := by decide +kernel
theorem d_ST_keep_4 : decode b_ST_keep 4 = .ok (.iload_n 1, 1) := by decide +kernel
theorem d_ST_keep_5 : decode b_ST_keep 5 = .ok (.baload, 1) := by decide +kernel
theorem d_ST_keep_6 : decode b_ST_keep 6 = .ok (.ifCond .ne 20, 3) := by decide +kernel
theorem d_ST_keep_9 : decode b_ST_keep 9 = .ok (.aload_n 0, 1) := by decide +kernel
theorem d_ST_keep_10 : decode b_ST_keep 10 = .ok (.getfield 9, 3) := by decide +kernel
theorem d_ST_keep_13 : decode b_ST_keep 13 = .ok (.iload_n 1, 1) := by decide +kernel
theorem d_ST_keep_14 : decode b_ST_keep 14 = .ok (.iconst 1, 1) := by decide +kernel
theorem d_ST_keep_15 : decode b_ST_keep 15 = .ok (.bastore, 1) := by decide +kernel
theorem d_ST_keep_16 : decode b_ST_keep 16 = .ok (.aload_n 0, 1) := by decide +kernel
theorem d_ST_keep_17 : decode b_ST_keep 17 = .ok (.dup, 1) := by decide +kernel
theorem d_ST_keep_18 : decode b_ST_keep 18 = .ok (.getfield 30, 3) := by decide +kernel
theorem d_ST_keep_21 : decode b_ST_keep 21 = .ok (.iconst 1, 1) := by decide +kernel
theorem d_ST_keep_22 : decode b_ST_keep 22 = .ok (.iadd, 1) := by decide +kernel
theorem d_ST_keep_23 : decode b_ST_keep 23 = .ok (.putfield 30, 3) := by decide +kernel
theorem d_ST_keep_26 : decode b_ST_keep 26 = .ok (.aload_n 0, 1) := by decide +kernel
theorem d_ST_keep_27 : decode b_ST_keep 27 = .ok (.getfield 15, 3) := by decide +kernel
theorem d_ST_keep_30 : decode b_ST_keep 30 = .ok (.iload_n 1, 1) := by decide +kernel
theorem d_ST_keep_31 : decode b_ST_keep 31 = .ok (.iload_n 2, 1) := by decide +kernel
theorem d_ST_keep_32 : decode b_ST_keep 32 = .ok (.iastore, 1) := by decide +kernel
theorem d_ST_keep_33 : decode b_ST_keep 33 = .ok (.aload_n 0, 1) := by decide +kernel
theorem d_ST_keep_34 : decode b_ST_keep 34 = .ok (.aload_n 0, 1) := by decide +kernel
theorem d_ST_keep_35 : decode b_ST_keep 35 = .ok (.getfield 26, 3) := by decide +kernel
theorem d_ST_keep_38 : decode b_ST_keep 38 = .ok (.iload_n 3, 1) := by decide +kernel
theorem d_ST_keep_39 : decode b_ST_keep 39 = .ok (.invokestatic 33, 3) := by decide +kernel
theorem d_ST_keep_42 : decode b_ST_keep 42 = .ok (.putfield 26, 3) := by decide +kernel
theorem d_ST_keep_45 : decode b_ST_keep 45 = .ok (.return_, 1) := by decide +kernel
theorem d_ST_detail_0 : decode b_ST_detail 0 = .ok (.iload_n 1, 1) := by decide +kernel
theorem d_ST_detail_1 : decode b_ST_detail 1 = .ok (.tableswitch 67 0 3 #[31, 44, 57, 62], 31) := by decide +kernel
theorem d_ST_detail_32 : decode b_ST_detail 32 = .ok (.aload_n 0, 1) := by decide +kernel
theorem d_ST_detail_33 : decode b_ST_detail 33 = .ok (.getfield 19, 3) := by decide +kernel
theorem d_ST_detail_36 : decode b_ST_detail 36 = .ok (.ifCond .eq 7, 3) := by decide +kernel
theorem d_ST_detail_39 : decode b_ST_detail 39 = .ok (.iconst 1, 1) := by decide +kernel
theorem d_ST_detail_40 : decode b_ST_detail 40 = .ok (.goto 4, 3) := by decide +kernel
theorem d_ST_detail_43 : decode b_ST_detail 43 = .ok (.iconst 0, 1) := by decide +kernel
theorem d_ST_detail_44 : decode b_ST_detail 44 = .ok (.ireturn, 1) := by decide +kernel
theorem d_ST_detail_45 : decode b_ST_detail 45 = .ok (.aload_n 0, 1) := by decide +kernel
theorem d_ST_detail_46 : decode b_ST_detail 46 = .ok (.getfield 23, 3) := by decide +kernel
theorem d_ST_detail_49 : decode b_ST_detail 49 = .ok (.ifCond .eq 7, 3) := by decide +kernel
theorem d_ST_detail_52 : decode b_ST_detail 52 = .ok (.iconst 1, 1) := by decide +kernel
theorem d_ST_detail_53 : decode b_ST_detail 53 = .ok (.goto 4, 3) := by decide +kernel
theorem d_ST_detail_56 : decode b_ST_detail 56 = .ok (.iconst 0, 1) := by decide +kernel
theorem d_ST_detail_57 : decode b_ST_detail 57 = .ok (.ireturn, 1) := by decide +kernel
theorem d_ST_detail_58 : decode b_ST_detail 58 = .ok (.aload_n 0, 1) := by decide +kernel
theorem d_ST_detail_59 : decode b_ST_detail 59 = .ok (.getfield 26, 3) := by decide +kernel
theorem d_ST_detail_62 : decode b_ST_detail 62 = .ok (.ireturn, 1) := by decide +kernel
theorem d_ST_detail_63 : decode b_ST_detail 63 = .ok (.aload_n 0, 1) := by decide +kernel
theorem d_ST_detail_64 : decode b_ST_detail 64 = .ok (.getfield 30, 3) := by decide +kernel
theorem d_ST_detail_67 : decode b_ST_detail 67 = .ok (.ireturn, 1) := by decide +kernel
theorem d_ST_detail_68 : decode b_ST_detail 68 = .ok (.iconst (-1), 1) := by decide +kernel
theorem d_ST_detail_69 : decode b_ST_detail 69 = .ok (.ireturn, 1) := by decide +kernel
theorem d_WR_init_0 : decode b_WR_init 0 = .ok (.aload_n 0, 1) := by decide +kernel
theorem d_WR_init_1 : decode b_WR_init 1 = .ok (.invokespecial 3, 3) := by decide +kernel
theorem d_WR_init_4 : decode b_WR_init 4 = .ok (.aload_n 0, 1) := by decide +kernel
theorem d_WR_init_5 : decode b_WR_init 5 = .ok (.bipush 20, 2) := by decide +kernel
theorem d_WR_init_7 : decode b_WR_init 7 = .ok (.newarray .int, 2) := by decide +kernel
theorem d_WR_init_9 : decode b_WR_init 9 = .ok (.putfield 9, 3) := by decide +kernel
theorem d_WR_init_12 : decode b_WR_init 12 = .ok (.aload_n 0, 1) := by decide +kernel
theorem d_WR_init_13 : decode b_WR_init 13 = .ok (.bipush 20, 2) := by decide +kernel
theorem d_WR_init_15 : decode b_WR_init 15 = .ok (.newarray .int, 2) := by decide +kernel
theorem d_WR_init_17 : decode b_WR_init 17 = .ok (.putfield 15, 3) := by decide +kernel
theorem d_WR_init_20 : decode b_WR_init 20 = .ok (.aload_n 0, 1) := by decide +kernel
theorem d_WR_init_21 : decode b_WR_init 21 = .ok (.iconst 0, 1) := by decide +kernel
theorem d_WR_init_22 : decode b_WR_init 22 = .ok (.putfield 18, 3) := by decide +kernel
theorem d_WR_init_25 : decode b_WR_init 25 = .ok (.aload_n 0, 1) := by decide +kernel
theorem d_WR_init_26 : decode b_WR_init 26 = .ok (.iconst 0, 1) := by decide +kernel
theorem d_WR_init_27 : decode b_WR_init 27 = .ok (.putfield 22, 3) := by decide +kernel
theorem d_WR_init_30 : decode b_WR_init 30 = .ok (.aload_n 0, 1) := by decide +kernel
theorem d_WR_init_31 : decode b_WR_init 31 = .ok (.iconst (-1), 1) := by decide +kernel
theorem d_WR_init_32 : decode b_WR_init 32 = .ok (.putfield 25, 3) := by decide +kernel
theorem d_WR_init_35 : decode b_WR_init 35 = .ok (.return_, 1) := by decide +kernel
theorem d_WR_isFull_0 : decode b_WR_isFull 0 = .ok (.aload_n 0, 1) := by decide +kernel
theorem d_WR_isFull_1 : decode b_WR_isFull 1 = .ok (.getfield 22, 3) := by decide +kernel
theorem d_WR_isFull_4 : decode b_WR_isFull 4 = .ok (.bipush 20, 2) := by decide +kernel
theorem d_WR_isFull_6 : decode b_WR_isFull 6 = .ok (.if_icmp .ge 18, 3) := by decide +kernel
theorem d_WR_isFull_9 : decode b_WR_isFull 9 = .ok (.aload_n 0, 1) := by decide +kernel
theorem d_WR_isFull_10 : decode b_WR_isFull 10 = .ok (.getfield 22, 3) := by decide +kernel
theorem d_WR_isFull_13 : decode b_WR_isFull 13 = .ok (.aload_n 0, 1) := by decide +kernel
theorem d_WR_isFull_14 : decode b_WR_isFull 14 = .ok (.getfield 25, 3) := by decide +kernel
theorem d_WR_isFull_17 : decode b_WR_isFull 17 = .ok (.iconst 1, 1) := by decide +kernel
theorem d_WR_isFull_18 : decode b_WR_isFull 18 = .ok (.iadd, 1) := by decide +kernel
theorem d_WR_isFull_19 : decode b_WR_isFull 19 = .ok (.isub, 1) := by decide +kernel
theorem d_WR_isFull_20 : decode b_WR_isFull 20 = .ok (.iconst 4, 1) := by decide +kernel
theorem d_WR_isFull_21 : decode b_WR_isFull 21 = .ok (.if_icmp .lt 7, 3) := by decide +kernel
theorem d_WR_isFull_24 : decode b_WR_isFull 24 = .ok (.iconst 1, 1) := by decide +kernel
theorem d_WR_isFull_25 : decode b_WR_isFull 25 = .ok (.goto 4, 3) := by decide +kernel
end
section
theorem d_WR_isFull_28 : decode b_WR_isFull 28 = .ok (.iconst 0, 1) := by decide +kernel
theorem d_WR_isFull_29 : decode b_WR_isFull 29 = .ok (.ireturn, 1) := by decide +kernel
theorem d_WR_knows_0 : decode b_WR_knows 0 = .ok (.iload_n 1, 1) := by decide +kernel
theorem d_WR_knows_1 : decode b_WR_knows 1 = .ok (.ifCond .lt 15, 3) := by decide +kernel
theorem d_WR_knows_4 : decode b_WR_knows 4 = .ok (.iload_n 1, 1) := by decide +kernel
theorem d_WR_knows_5 : decode b_WR_knows 5 = .ok (.aload_n 0, 1) := by decide +kernel
theorem d_WR_knows_6 : decode b_WR_knows 6 = .ok (.getfield 22, 3) := by decide +kernel
theorem d_WR_knows_9 : decode b_WR_knows 9 = .ok (.if_icmp .ge 7, 3) := by decide +kernel
theorem d_WR_knows_12 : decode b_WR_knows 12 = .ok (.iconst 1, 1) := by decide +kernel
theorem d_WR_knows_13 : decode b_WR_knows 13 = .ok (.goto 4, 3) := by decide +kernel
theorem d_WR_knows_16 : decode b_WR_knows 16 = .ok (.iconst 0, 1) := by decide +kernel
theorem d_WR_knows_17 : decode b_WR_knows 17 = .ok (.ireturn, 1) := by decide +kernel
theorem d_WR_append_0 : decode b_WR_append 0 = .ok (.aload_n 0, 1) := by decide +kernel
theorem d_WR_append_1 : decode b_WR_append 1 = .ok (.getfield 22, 3) := by decide +kernel
theorem d_WR_append_4 : decode b_WR_append 4 = .ok (.istore_n 2, 1) := by decide +kernel
theorem d_WR_append_5 : decode b_WR_append 5 = .ok (.aload_n 0, 1) := by decide +kernel
theorem d_WR_append_6 : decode b_WR_append 6 = .ok (.getfield 9, 3) := by decide +kernel
theorem d_WR_append_9 : decode b_WR_append 9 = .ok (.iload_n 2, 1) := by decide +kernel
theorem d_WR_append_10 : decode b_WR_append 10 = .ok (.iload_n 1, 1) := by decide +kernel
theorem d_WR_append_11 : decode b_WR_append 11 = .ok (.iastore, 1) := by decide +kernel
theorem d_WR_append_12 : decode b_WR_append 12 = .ok (.aload_n 0, 1) := by decide +kernel
theorem d_WR_append_13 : decode b_WR_append 13 = .ok (.dup, 1) := by decide +kernel
theorem d_WR_append_14 : decode b_WR_append 14 = .ok (.getfield 22, 3) := by decide +kernel
theorem d_WR_append_17 : decode b_WR_append 17 = .ok (.iconst 1, 1) := by decide +kernel
theorem d_WR_append_18 : decode b_WR_append 18 = .ok (.iadd, 1) := by decide +kernel
theorem d_WR_append_19 : decode b_WR_append 19 = .ok (.putfield 22, 3) := by decide +kernel
theorem d_WR_append_22 : decode b_WR_append 22 = .ok (.iload_n 2, 1) := by decide +kernel
theorem d_WR_append_23 : decode b_WR_append 23 = .ok (.ireturn, 1) := by decide +kernel
theorem d_WR_countAnswers_0 : decode b_WR_countAnswers 0 = .ok (.aload_n 0, 1) := by decide +kernel
theorem d_WR_countAnswers_1 : decode b_WR_countAnswers 1 = .ok (.getfield 15, 3) := by decide +kernel
theorem d_WR_countAnswers_4 : decode b_WR_countAnswers 4 = .ok (.iload_n 1, 1) := by decide +kernel
theorem d_WR_countAnswers_5 : decode b_WR_countAnswers 5 = .ok (.iaload, 1) := by decide +kernel
theorem d_WR_countAnswers_6 : decode b_WR_countAnswers 6 = .ok (.invokestatic 28, 3) := by decide +kernel
theorem d_WR_countAnswers_9 : decode b_WR_countAnswers 9 = .ok (.ireturn, 1) := by decide +kernel
theorem d_WR_advanceLac_0 : decode b_WR_advanceLac 0 = .ok (.aload_n 0, 1) := by decide +kernel
theorem d_WR_advanceLac_1 : decode b_WR_advanceLac 1 = .ok (.getfield 25, 3) := by decide +kernel
theorem d_WR_advanceLac_4 : decode b_WR_advanceLac 4 = .ok (.iconst 1, 1) := by decide +kernel
theorem d_WR_advanceLac_5 : decode b_WR_advanceLac 5 = .ok (.iadd, 1) := by decide +kernel
theorem d_WR_advanceLac_6 : decode b_WR_advanceLac 6 = .ok (.istore_n 2, 1) := by decide +kernel
theorem d_WR_advanceLac_7 : decode b_WR_advanceLac 7 = .ok (.iload_n 2, 1) := by decide +kernel
theorem d_WR_advanceLac_8 : decode b_WR_advanceLac 8 = .ok (.aload_n 0, 1) := by decide +kernel
theorem d_WR_advanceLac_9 : decode b_WR_advanceLac 9 = .ok (.getfield 22, 3) := by decide +kernel
theorem d_WR_advanceLac_12 : decode b_WR_advanceLac 12 = .ok (.if_icmp .ge 23, 3) := by decide +kernel
theorem d_WR_advanceLac_15 : decode b_WR_advanceLac 15 = .ok (.aload_n 0, 1) := by decide +kernel
theorem d_WR_advanceLac_16 : decode b_WR_advanceLac 16 = .ok (.iload_n 2, 1) := by decide +kernel
theorem d_WR_advanceLac_17 : decode b_WR_advanceLac 17 = .ok (.invokevirtual 49, 3) := by decide +kernel
theorem d_WR_advanceLac_20 : decode b_WR_advanceLac 20 = .ok (.iload_n 1, 1) := by decide +kernel
theorem d_WR_advanceLac_21 : decode b_WR_advanceLac 21 = .ok (.if_icmp .lt 14, 3) := by decide +kernel
theorem d_WR_advanceLac_24 : decode b_WR_advanceLac 24 = .ok (.aload_n 0, 1) := by decide +kernel
theorem d_WR_advanceLac_25 : decode b_WR_advanceLac 25 = .ok (.iload_n 2, 1) := by decide +kernel
theorem d_WR_advanceLac_26 : decode b_WR_advanceLac 26 = .ok (.putfield 25, 3) := by decide +kernel
theorem d_WR_advanceLac_29 : decode b_WR_advanceLac 29 = .ok (.iinc 2 1, 3) := by decide +kernel
theorem d_WR_advanceLac_32 : decode b_WR_advanceLac 32 = .ok (.goto (-25), 3) := by decide +kernel
theorem d_WR_advanceLac_35 : decode b_WR_advanceLac 35 = .ok (.return_, 1) := by decide +kernel
theorem d_WR_hear_0 : decode b_WR_hear 0 = .ok (.aload_n 0, 1) := by decide +kernel
theorem d_WR_hear_1 : decode b_WR_hear 1 = .ok (.getfield 18, 3) := by decide +kernel
theorem d_WR_hear_4 : decode b_WR_hear 4 = .ok (.ifCond .eq 4, 3) := by decide +kernel
theorem d_WR_hear_7 : decode b_WR_hear 7 = .ok (.return_, 1) := by decide +kernel
theorem d_WR_hear_8 : decode b_WR_hear 8 = .ok (.aload_n 1, 1) := by decide +kernel
theorem d_WR_hear_9 : decode b_WR_hear 9 = .ok (.getfield 34, 3) := by decide +kernel
theorem d_WR_hear_12 : decode b_WR_hear 12 = .ok (.iconst 4, 1) := by decide +kernel
theorem d_WR_hear_13 : decode b_WR_hear 13 = .ok (.if_icmp .ne 11, 3) := by decide +kernel
theorem d_WR_hear_16 : decode b_WR_hear 16 = .ok (.aload_n 0, 1) := by decide +kernel
theorem d_WR_hear_17 : decode b_WR_hear 17 = .ok (.iconst 1, 1) := by decide +kernel
theorem d_WR_hear_18 : decode b_WR_hear 18 = .ok (.putfield 18, 3) := by decide +kernel
theorem d_WR_hear_21 : decode b_WR_hear 21 = .ok (.goto 26, 3) := by decide +kernel
theorem d_WR_hear_24 : decode b_WR_hear 24 = .ok (.aload_n 0, 1) := by decide +kernel
theorem d_WR_hear_25 : decode b_WR_hear 25 = .ok (.getfield 15, 3) := by decide +kernel
theorem d_WR_hear_28 : decode b_WR_hear 28 = .ok (.aload_n 1, 1) := by decide +kernel
theorem d_WR_hear_29 : decode b_WR_hear 29 = .ok (.getfield 39, 3) := by decide +kernel
theorem d_WR_hear_32 : decode b_WR_hear 32 = .ok (.dup2, 1) := by decide +kernel
theorem d_WR_hear_33 : decode b_WR_hear 33 = .ok (.iaload, 1) := by decide +kernel
theorem d_WR_hear_34 : decode b_WR_hear 34 = .ok (.iconst 1, 1) := by decide +kernel
theorem d_WR_hear_35 : decode b_WR_hear 35 = .ok (.aload_n 1, 1) := by decide +kernel
theorem d_WR_hear_36 : decode b_WR_hear 36 = .ok (.getfield 42, 3) := by decide +kernel
theorem d_WR_hear_39 : decode b_WR_hear 39 = .ok (.ishl, 1) := by decide +kernel
theorem d_WR_hear_40 : decode b_WR_hear 40 = .ok (.ior, 1) := by decide +kernel
theorem d_WR_hear_41 : decode b_WR_hear 41 = .ok (.iastore, 1) := by decide +kernel
theorem d_WR_hear_42 : decode b_WR_hear 42 = .ok (.aload_n 0, 1) := by decide +kernel
theorem d_WR_hear_43 : decode b_WR_hear 43 = .ok (.iload_n 2, 1) := by decide +kernel
theorem d_WR_hear_44 : decode b_WR_hear 44 = .ok (.invokevirtual 45, 3) := by decide +kernel
theorem d_WR_hear_47 : decode b_WR_hear 47 = .ok (.return_, 1) := by decide +kernel
theorem d_FL_nearest_0 : decode b_FL_nearest 0 = .ok (.iload_n 1, 1) := by decide +kernel
theorem d_FL_nearest_1 : decode b_FL_nearest 1 = .ok (.iload_n 2, 1) := by decide +kernel
theorem d_FL_nearest_2 : decode b_FL_nearest 2 = .ok (.iload_n 0, 1) := by decide +kernel
theorem d_FL_nearest_3 : decode b_FL_nearest 3 = .ok (.invokestatic 189, 3) := by decide +kernel
theorem d_FL_nearest_6 : decode b_FL_nearest 6 = .ok (.invokestatic 195, 3) := by decide +kernel
theorem d_FL_nearest_9 : decode b_FL_nearest 9 = .ok (.ireturn, 1) := by decide +kernel
theorem d_FL_init_0 : decode b_FL_init 0 = .ok (.aload_n 0, 1) := by decide +kernel
theorem d_FL_init_1 : decode b_FL_init 1 = .ok (.invokespecial 1, 3) := by decide +kernel
theorem d_FL_init_4 : decode b_FL_init 4 = .ok (.aload_n 0, 1) := by decide +kernel
theorem d_FL_init_5 : decode b_FL_init 5 = .ok (.iload_n 1, 1) := by decide +kernel
theorem d_FL_init_6 : decode b_FL_init 6 = .ok (.iconst 3, 1) := by decide +kernel
theorem d_FL_init_7 : decode b_FL_init 7 = .ok (.iconst 5, 1) := by decide +kernel
theorem d_FL_init_8 : decode b_FL_init 8 = .ok (.invokestatic 7, 3) := by decide +kernel
theorem d_FL_init_11 : decode b_FL_init 11 = .ok (.putfield 13, 3) := by decide +kernel
theorem d_FL_init_14 : decode b_FL_init 14 = .ok (.aload_n 0, 1) := by decide +kernel
theorem d_FL_init_15 : decode b_FL_init 15 = .ok (.iload_n 2, 1) := by decide +kernel
theorem d_FL_init_16 : decode b_FL_init 16 = .ok (.iconst 2, 1) := by decide +kernel
theorem d_FL_init_17 : decode b_FL_init 17 = .ok (.aload_n 0, 1) := by decide +kernel
theorem d_FL_init_18 : decode b_FL_init 18 = .ok (.getfield 13, 3) := by decide +kernel
theorem d_FL_init_21 : decode b_FL_init 21 = .ok (.invokestatic 7, 3) := by decide +kernel
theorem d_FL_init_24 : decode b_FL_init 24 = .ok (.putfield 17, 3) := by decide +kernel
theorem d_FL_init_27 : decode b_FL_init 27 = .ok (.aload_n 0, 1) := by decide +kernel
theorem d_FL_init_28 : decode b_FL_init 28 = .ok (.iload_n 3, 1) := by decide +kernel
theorem d_FL_init_29 : decode b_FL_init 29 = .ok (.iconst 1, 1) := by decide +kernel
theorem d_FL_init_30 : decode b_FL_init 30 = .ok (.aload_n 0, 1) := by decide +kernel
theorem d_FL_init_31 : decode b_FL_init 31 = .ok (.getfield 17, 3) := by decide +kernel
theorem d_FL_init_34 : decode b_FL_init 34 = .ok (.invokestatic 7, 3) := by decide +kernel
theorem d_FL_init_37 : decode b_FL_init 37 = .ok (.putfield 20, 3) := by decide +kernel
theorem d_FL_init_40 : decode b_FL_init 40 = .ok (.aload_n 0, 1) := by decide +kernel
theorem d_FL_init_41 : decode b_FL_init 41 = .ok (.aload_n 0, 1) := by decide +kernel
theorem d_FL_init_42 : decode b_FL_init 42 = .ok (.getfield 13, 3) := by decide +kernel
theorem d_FL_init_45 : decode b_FL_init 45 = .ok (.anewarray 23, 3) := by decide +kernel
theorem d_FL_init_48 : decode b_FL_init 48 = .ok (.putfield 25, 3) := by decide +kernel
theorem d_FL_init_51 : decode b_FL_init 51 = .ok (.iconst 0, 1) := by decide +kernel
theorem d_FL_init_52 : decode b_FL_init 52 = .ok (.istore 4, 2) := by decide +kernel
theorem d_FL_init_54 : decode b_FL_init 54 = .ok (.iload 4, 2) := by decide +kernel
theorem d_FL_init_56 : decode b_FL_init 56 = .ok (.aload_n 0, 1) := by decide +kernel
theorem d_FL_init_57 : decode b_FL_init 57 = .ok (.getfield 13, 3) := by decide +kernel
theorem d_FL_init_60 : decode b_FL_init 60 = .ok (.if_icmp .ge 23, 3) := by decide +kernel
theorem d_FL_init_63 : decode b_FL_init 63 = .ok (.aload_n 0, 1) := by decide +kernel
theorem d_FL_init_64 : decode b_FL_init 64 = .ok (.getfield 25, 3) := by decide +kernel
theorem d_FL_init_67 : decode b_FL_init 67 = .ok (.iload 4, 2) := by decide +kernel
theorem d_FL_init_69 : decode b_FL_init 69 = .ok (.new 23, 3) := by decide +kernel
theorem d_FL_init_72 : decode b_FL_init 72 = .ok (.dup, 1) := by decide +kernel
theorem d_FL_init_73 : decode b_FL_init 73 = .ok (.invokespecial 29, 3) := by decide +kernel
theorem d_FL_init_76 : decode b_FL_init 76 = .ok (.aastore, 1) := by decide +kernel
theorem d_FL_init_77 : decode b_FL_init 77 = .ok (.iinc 4 1, 3) := by decide +kernel
theorem d_FL_init_80 : decode b_FL_init 80 = .ok (.goto (-26), 3) := by decide +kernel
theorem d_FL_init_83 : decode b_FL_init 83 = .ok (.aload_n 0, 1) := by decide +kernel
theorem d_FL_init_84 : decode b_FL_init 84 = .ok (.new 30, 3) := by decide +kernel
theorem d_FL_init_87 : decode b_FL_init 87 = .ok (.dup, 1) := by decide +kernel
theorem d_FL_init_88 : decode b_FL_init 88 = .ok (.invokespecial 32, 3) := by decide +kernel
theorem d_FL_init_91 : decode b_FL_init 91 = .ok (.putfield 33, 3) := by decide +kernel
theorem d_FL_init_94 : decode b_FL_init 94 = .ok (.aload_n 0, 1) := by decide +kernel
theorem d_FL_init_95 : decode b_FL_init 95 = .ok (.new 37, 3) := by decide +kernel
theorem d_FL_init_98 : decode b_FL_init 98 = .ok (.dup, 1) := by decide +kernel
theorem d_FL_init_99 : decode b_FL_init 99 = .ok (.invokespecial 39, 3) := by decide +kernel
theorem d_FL_init_102 : decode b_FL_init 102 = .ok (.putfield 40, 3) := by decide +kernel
theorem d_FL_init_105 : decode b_FL_init 105 = .ok (.aload_n 0, 1) := by decide +kernel
theorem d_FL_init_106 : decode b_FL_init 106 = .ok (.iconst 2, 1) := by decide +kernel
theorem d_FL_init_107 : decode b_FL_init 107 = .ok (.anewarray 44, 3) := by decide +kernel
theorem d_FL_init_110 : decode b_FL_init 110 = .ok (.putfield 46, 3) := by decide +kernel
theorem d_FL_init_113 : decode b_FL_init 113 = .ok (.iconst 0, 1) := by decide +kernel
theorem d_FL_init_114 : decode b_FL_init 114 = .ok (.istore 4, 2) := by decide +kernel
theorem d_FL_init_116 : decode b_FL_init 116 = .ok (.iload 4, 2) := by decide +kernel
theorem d_FL_init_118 : decode b_FL_init 118 = .ok (.iconst 2, 1) := by decide +kernel
theorem d_FL_init_119 : decode b_FL_init 119 = .ok (.if_icmp .ge 27, 3) := by decide +kernel
theorem d_FL_init_122 : decode b_FL_init 122 = .ok (.aload_n 0, 1) := by decide +kernel
theorem d_FL_init_123 : decode b_FL_init 123 = .ok (.getfield 46, 3) := by decide +kernel
theorem d_FL_init_126 : decode b_FL_init 126 = .ok (.iload 4, 2) := by decide +kernel
theorem d_FL_init_128 : decode b_FL_init 128 = .ok (.new 44, 3) := by decide +kernel
theorem d_FL_init_131 : decode b_FL_init 131 = .ok (.dup, 1) := by decide +kernel
theorem d_FL_init_132 : decode b_FL_init 132 = .ok (.iload 4, 2) := by decide +kernel
theorem d_FL_init_134 : decode b_FL_init 134 = .ok (.iconst 1, 1) := by decide +kernel
theorem d_FL_init_135 : decode b_FL_init 135 = .ok (.iadd, 1) := by decide +kernel
theorem d_FL_init_136 : decode b_FL_init 136 = .ok (.invokespecial 50, 3) := by decide +kernel
theorem d_FL_init_139 : decode b_FL_init 139 = .ok (.aastore, 1) := by decide +kernel
theorem d_FL_init_140 : decode b_FL_init 140 = .ok (.iinc 4 1, 3) := by decide +kernel
theorem d_FL_init_143 : decode b_FL_init 143 = .ok (.goto (-27), 3) := by decide +kernel
theorem d_FL_init_146 : decode b_FL_init 146 = .ok (.aload_n 0, 1) := by decide +kernel
theorem d_FL_init_147 : decode b_FL_init 147 = .ok (.iconst 0, 1) := by decide +kernel
theorem d_FL_init_148 : decode b_FL_init 148 = .ok (.putfield 53, 3) := by decide +kernel
theorem d_FL_init_151 : decode b_FL_init 151 = .ok (.aload_n 0, 1) := by decide +kernel
theorem d_FL_init_152 : decode b_FL_init 152 = .ok (.iconst 0, 1) := by decide +kernel
theorem d_FL_init_153 : decode b_FL_init 153 = .ok (.putfield 56, 3) := by decide +kernel
theorem d_FL_init_156 : decode b_FL_init 156 = .ok (.aload_n 0, 1) := by decide +kernel
theorem d_FL_init_157 : decode b_FL_init 157 = .ok (.iconst (-1), 1) := by decide +kernel
theorem d_FL_init_158 : decode b_FL_init 158 = .ok (.putfield 59, 3) := by decide +kernel
theorem d_FL_init_161 : decode b_FL_init 161 = .ok (.return_, 1) := by decide +kernel
theorem d_FL_setMember_0 : decode b_FL_setMember 0 = .ok (.iload_n 1, 1) := by decide +kernel
theorem d_FL_setMember_1 : decode b_FL_setMember 1 = .ok (.iload_n 2, 1) := by decide +kernel
theorem d_FL_setMember_2 : decode b_FL_setMember 2 = .ok (.iadd, 1) := by decide +kernel
theorem d_FL_setMember_3 : decode b_FL_setMember 3 = .ok (.aload_n 0, 1) := by decide +kernel
theorem d_FL_setMember_4 : decode b_FL_setMember 4 = .ok (.getfield 13, 3) := by decide +kernel
theorem d_FL_setMember_7 : decode b_FL_setMember 7 = .ok (.irem, 1) := by decide +kernel
theorem d_FL_setMember_8 : decode b_FL_setMember 8 = .ok (.ireturn, 1) := by decide +kernel
theorem d_FL_sendToSet_0 : decode b_FL_sendToSet 0 = .ok (.iconst 0, 1) := by decide +kernel
theorem d_FL_sendToSet_1 : decode b_FL_sendToSet 1 = .ok (.istore 8, 2) := by decide +kernel
theorem d_FL_sendToSet_3 : decode b_FL_sendToSet 3 = .ok (.iconst 0, 1) := by decide +kernel
theorem d_FL_sendToSet_4 : decode b_FL_sendToSet 4 = .ok (.istore 9, 2) := by decide +kernel
theorem d_FL_sendToSet_6 : decode b_FL_sendToSet 6 = .ok (.iload 9, 2) := by decide +kernel
theorem d_FL_sendToSet_8 : decode b_FL_sendToSet 8 = .ok (.aload_n 0, 1) := by decide +kernel
theorem d_FL_sendToSet_9 : decode b_FL_sendToSet 9 = .ok (.getfield 17, 3) := by decide +kernel
theorem d_FL_sendToSet_12 : decode b_FL_sendToSet 12 = .ok (.if_icmp .ge 49, 3) := by decide +kernel
theorem d_FL_sendToSet_15 : decode b_FL_sendToSet 15 = .ok (.aload_n 0, 1) := by decide +kernel
theorem d_FL_sendToSet_16 : decode b_FL_sendToSet 16 = .ok (.iload_n 3, 1) := by decide +kernel
theorem d_FL_sendToSet_17 : decode b_FL_sendToSet 17 = .ok (.iload 9, 2) := by decide +kernel
theorem d_FL_sendToSet_19 : decode b_FL_sendToSet 19 = .ok (.invokevirtual 198, 3) := by decide +kernel
theorem d_FL_sendToSet_22 : decode b_FL_sendToSet 22 = .ok (.istore 10, 2) := by decide +kernel
theorem d_FL_sendToSet_24 : decode b_FL_sendToSet 24 = .ok (.iload 7, 2) := by decide +kernel
theorem d_FL_sendToSet_26 : decode b_FL_sendToSet 26 = .ok (.iconst 1, 1) := by decide +kernel
theorem d_FL_sendToSet_27 : decode b_FL_sendToSet 27 = .ok (.iload 10, 2) := by decide +kernel
theorem d_FL_sendToSet_29 : decode b_FL_sendToSet 29 = .ok (.ishl, 1) := by decide +kernel
theorem d_FL_sendToSet_30 : decode b_FL_sendToSet 30 = .ok (.iand, 1) := by decide +kernel
theorem d_FL_sendToSet_31 : decode b_FL_sendToSet 31 = .ok (.ifCond .ne 24, 3) := by decide +kernel
theorem d_FL_sendToSet_34 : decode b_FL_sendToSet 34 = .ok (.aload_n 0, 1) := by decide +kernel
theorem d_FL_sendToSet_35 : decode b_FL_sendToSet 35 = .ok (.getfield 33, 3) := by decide +kernel
theorem d_FL_sendToSet_38 : decode b_FL_sendToSet 38 = .ok (.iload_n 1, 1) := by decide +kernel
theorem d_FL_sendToSet_39 : decode b_FL_sendToSet 39 = .ok (.iload_n 2, 1) := by decide +kernel
theorem d_FL_sendToSet_40 : decode b_FL_sendToSet 40 = .ok (.iload 10, 2) := by decide +kernel
theorem d_FL_sendToSet_42 : decode b_FL_sendToSet 42 = .ok (.iload_n 3, 1) := by decide +kernel
theorem d_FL_sendToSet_43 : decode b_FL_sendToSet 43 = .ok (.iload 4, 2) := by decide +kernel
theorem d_FL_sendToSet_45 : decode b_FL_sendToSet 45 = .ok (.iload 5, 2) := by decide +kernel
theorem d_FL_sendToSet_47 : decode b_FL_sendToSet 47 = .ok (.iload 6, 2) := by decide +kernel
theorem d_FL_sendToSet_49 : decode b_FL_sendToSet 49 = .ok (.invokevirtual 209, 3) := by decide +kernel
theorem d_FL_sendToSet_52 : decode b_FL_sendToSet 52 = .ok (.iinc 8 1, 3) := by decide +kernel
theorem d_FL_sendToSet_55 : decode b_FL_sendToSet 55 = .ok (.iinc 9 1, 3) := by decide +kernel
theorem d_FL_sendToSet_58 : decode b_FL_sendToSet 58 = .ok (.goto (-52), 3) := by decide +kernel
theorem d_FL_sendToSet_61 : decode b_FL_sendToSet 61 = .ok (.iload 8, 2) := by decide +kernel
theorem d_FL_sendToSet_63 : decode b_FL_sendToSet 63 = .ok (.ireturn, 1) := by decide +kernel
theorem d_FL_sendWritersAdd_0 : decode b_FL_sendWritersAdd 0 = .ok (.aload_n 0, 1) := by decide +kernel
theorem d_FL_sendWritersAdd_1 : decode b_FL_sendWritersAdd 1 = .ok (.getfield 40, 3) := by decide +kernel
theorem d_FL_sendWritersAdd_4 : decode b_FL_sendWritersAdd 4 = .ok (.getfield 201, 3) := by decide +kernel
theorem d_FL_sendWritersAdd_7 : decode b_FL_sendWritersAdd 7 = .ok (.iload_n 1, 1) := by decide +kernel
theorem d_FL_sendWritersAdd_8 : decode b_FL_sendWritersAdd 8 = .ok (.iaload, 1) := by decide +kernel
theorem d_FL_sendWritersAdd_9 : decode b_FL_sendWritersAdd 9 = .ok (.istore_n 2, 1) := by decide +kernel
theorem d_FL_sendWritersAdd_10 : decode b_FL_sendWritersAdd 10 = .ok (.aload_n 0, 1) := by decide +kernel
theorem d_FL_sendWritersAdd_11 : decode b_FL_sendWritersAdd 11 = .ok (.iconst 0, 1) := by decide +kernel
theorem d_FL_sendWritersAdd_12 : decode b_FL_sendWritersAdd 12 = .ok (.iconst 0, 1) := by decide +kernel
theorem d_FL_sendWritersAdd_13 : decode b_FL_sendWritersAdd 13 = .ok (.iload_n 1, 1) := by decide +kernel
theorem d_FL_sendWritersAdd_14 : decode b_FL_sendWritersAdd 14 = .ok (.iload_n 2, 1) := by decide +kernel
theorem d_FL_sendWritersAdd_15 : decode b_FL_sendWritersAdd 15 = .ok (.iconst 0, 1) := by decide +kernel
theorem d_FL_sendWritersAdd_16 : decode b_FL_sendWritersAdd 16 = .ok (.aload_n 0, 1) := by decide +kernel
theorem d_FL_sendWritersAdd_17 : decode b_FL_sendWritersAdd 17 = .ok (.getfield 40, 3) := by decide +kernel
theorem d_FL_sendWritersAdd_20 : decode b_FL_sendWritersAdd 20 = .ok (.getfield 92, 3) := by decide +kernel
theorem d_FL_sendWritersAdd_23 : decode b_FL_sendWritersAdd 23 = .ok (.aload_n 0, 1) := by decide +kernel
theorem d_FL_sendWritersAdd_24 : decode b_FL_sendWritersAdd 24 = .ok (.getfield 40, 3) := by decide +kernel
theorem d_FL_sendWritersAdd_27 : decode b_FL_sendWritersAdd 27 = .ok (.getfield 202, 3) := by decide +kernel
theorem d_FL_sendWritersAdd_30 : decode b_FL_sendWritersAdd 30 = .ok (.iload_n 1, 1) := by decide +kernel
theorem d_FL_sendWritersAdd_31 : decode b_FL_sendWritersAdd 31 = .ok (.iaload, 1) := by decide +kernel
theorem d_FL_sendWritersAdd_32 : decode b_FL_sendWritersAdd 32 = .ok (.invokevirtual 205, 3) := by decide +kernel
theorem d_FL_sendWritersAdd_35 : decode b_FL_sendWritersAdd 35 = .ok (.ireturn, 1) := by decide +kernel
theorem d_FL_resend_0 : decode b_FL_resend 0 = .ok (.aload_n 0, 1) := by decide +kernel
theorem d_FL_resend_1 : decode b_FL_resend 1 = .ok (.getfield 40, 3) := by decide +kernel
theorem d_FL_resend_4 : decode b_FL_resend 4 = .ok (.getfield 62, 3) := by decide +kernel
theorem d_FL_resend_7 : decode b_FL_resend 7 = .ok (.ifCond .ne 14, 3) := by decide +kernel
theorem d_FL_resend_10 : decode b_FL_resend 10 = .ok (.aload_n 0, 1) := by decide +kernel
theorem d_FL_resend_11 : decode b_FL_resend 11 = .ok (.getfield 40, 3) := by decide +kernel
theorem d_FL_resend_14 : decode b_FL_resend 14 = .ok (.iload_n 1, 1) := by decide +kernel
theorem d_FL_resend_15 : decode b_FL_resend 15 = .ok (.invokevirtual 88, 3) := by decide +kernel
theorem d_FL_resend_18 : decode b_FL_resend 18 = .ok (.ifCond .ne 5, 3) := by decide +kernel
theorem d_FL_resend_21 : decode b_FL_resend 21 = .ok (.iconst (-1), 1) := by decide +kernel
theorem d_FL_resend_22 : decode b_FL_resend 22 = .ok (.ireturn, 1) := by decide +kernel
theorem d_FL_resend_23 : decode b_FL_resend 23 = .ok (.iload_n 1, 1) := by decide +kernel
theorem d_FL_resend_24 : decode b_FL_resend 24 = .ok (.aload_n 0, 1) := by decide +kernel
theorem d_FL_resend_25 : decode b_FL_resend 25 = .ok (.getfield 40, 3) := by decide +kernel
theorem d_FL_resend_28 : decode b_FL_resend 28 = .ok (.getfield 92, 3) := by decide +kernel
theorem d_FL_resend_31 : decode b_FL_resend 31 = .ok (.if_icmp .gt 20, 3) := by decide +kernel
theorem d_FL_resend_34 : decode b_FL_resend 34 = .ok (.aload_n 0, 1) := by decide +kernel
theorem d_FL_resend_35 : decode b_FL_resend 35 = .ok (.getfield 40, 3) := by decide +kernel
theorem d_FL_resend_38 : decode b_FL_resend 38 = .ok (.iload_n 1, 1) := by decide +kernel
theorem d_FL_resend_39 : decode b_FL_resend 39 = .ok (.invokevirtual 95, 3) := by decide +kernel
theorem d_FL_resend_42 : decode b_FL_resend 42 = .ok (.aload_n 0, 1) := by decide +kernel
theorem d_FL_resend_43 : decode b_FL_resend 43 = .ok (.getfield 17, 3) := by decide +kernel
theorem d_FL_resend_46 : decode b_FL_resend 46 = .ok (.if_icmp .ne 5, 3) := by decide +kernel
theorem d_FL_resend_49 : decode b_FL_resend 49 = .ok (.iconst (-1), 1) := by decide +kernel
theorem d_FL_resend_50 : decode b_FL_resend 50 = .ok (.ireturn, 1) := by decide +kernel
theorem d_FL_resend_51 : decode b_FL_resend 51 = .ok (.aload_n 0, 1) := by decide +kernel
theorem d_FL_resend_52 : decode b_FL_resend 52 = .ok (.iload_n 1, 1) := by decide +kernel
theorem d_FL_resend_53 : decode b_FL_resend 53 = .ok (.invokevirtual 85, 3) := by decide +kernel
theorem d_FL_resend_56 : decode b_FL_resend 56 = .ok (.ireturn, 1) := by decide +kernel
theorem d_FL_shutLedger_0 : decode b_FL_shutLedger 0 = .ok (.aload_n 0, 1) := by decide +kernel
theorem d_FL_shutLedger_1 : decode b_FL_shutLedger 1 = .ok (.iconst 2, 1) := by decide +kernel
theorem d_FL_shutLedger_2 : decode b_FL_shutLedger 2 = .ok (.putfield 53, 3) := by decide +kernel
theorem d_FL_shutLedger_5 : decode b_FL_shutLedger 5 = .ok (.aload_n 0, 1) := by decide +kernel
theorem d_FL_shutLedger_6 : decode b_FL_shutLedger 6 = .ok (.iload_n 1, 1) := by decide +kernel
theorem d_FL_shutLedger_7 : decode b_FL_shutLedger 7 = .ok (.putfield 59, 3) := by decide +kernel
theorem d_FL_shutLedger_10 : decode b_FL_shutLedger 10 = .ok (.aload_n 0, 1) := by decide +kernel
theorem d_FL_shutLedger_11 : decode b_FL_shutLedger 11 = .ok (.dup, 1) := by decide +kernel
theorem d_FL_shutLedger_12 : decode b_FL_shutLedger 12 = .ok (.getfield 56, 3) := by decide +kernel
theorem d_FL_shutLedger_15 : decode b_FL_shutLedger 15 = .ok (.iconst 1, 1) := by decide +kernel
theorem d_FL_shutLedger_16 : decode b_FL_shutLedger 16 = .ok (.iadd, 1) := by decide +kernel
theorem d_FL_shutLedger_17 : decode b_FL_shutLedger 17 = .ok (.putfield 56, 3) := by decide +kernel
theorem d_FL_shutLedger_20 : decode b_FL_shutLedger 20 = .ok (.return_, 1) := by decide +kernel
theorem d_FL_close_0 : decode b_FL_close 0 = .ok (.aload_n 0, 1) := by decide +kernel
theorem d_FL_close_1 : decode b_FL_close 1 = .ok (.getfield 40, 3) := by decide +kernel
theorem d_FL_close_4 : decode b_FL_close 4 = .ok (.getfield 62, 3) := by decide +kernel
theorem d_FL_close_7 : decode b_FL_close 7 = .ok (.ifCond .ne 10, 3) := by decide +kernel
theorem d_FL_close_10 : decode b_FL_close 10 = .ok (.aload_n 0, 1) := by decide +kernel
theorem d_FL_close_11 : decode b_FL_close 11 = .ok (.getfield 53, 3) := by decide +kernel
theorem d_FL_close_14 : decode b_FL_close 14 = .ok (.ifCond .eq 5, 3) := by decide +kernel
theorem d_FL_close_17 : decode b_FL_close 17 = .ok (.iconst 0, 1) := by decide +kernel
theorem d_FL_close_18 : decode b_FL_close 18 = .ok (.ireturn, 1) := by decide +kernel
theorem d_FL_close_19 : decode b_FL_close 19 = .ok (.aload_n 0, 1) := by decide +kernel
theorem d_FL_close_20 : decode b_FL_close 20 = .ok (.aload_n 0, 1) := by decide +kernel
theorem d_FL_close_21 : decode b_FL_close 21 = .ok (.getfield 40, 3) := by decide +kernel
theorem d_FL_close_24 : decode b_FL_close 24 = .ok (.getfield 92, 3) := by decide +kernel
theorem d_FL_close_27 : decode b_FL_close 27 = .ok (.invokevirtual 98, 3) := by decide +kernel
theorem d_FL_close_30 : decode b_FL_close 30 = .ok (.aload_n 0, 1) := by decide +kernel
theorem d_FL_close_31 : decode b_FL_close 31 = .ok (.getfield 40, 3) := by decide +kernel
theorem d_FL_close_34 : decode b_FL_close 34 = .ok (.iconst 2, 1) := by decide +kernel
theorem d_FL_close_35 : decode b_FL_close 35 = .ok (.putfield 62, 3) := by decide +kernel
theorem d_FL_close_38 : decode b_FL_close 38 = .ok (.iconst 1, 1) := by decide +kernel
theorem d_FL_close_39 : decode b_FL_close 39 = .ok (.ireturn, 1) := by decide +kernel
theorem d_FL_leave_0 : decode b_FL_leave 0 = .ok (.aload_n 0, 1) := by decide +kernel
theorem d_FL_leave_1 : decode b_FL_leave 1 = .ok (.getfield 40, 3) := by decide +kernel
theorem d_FL_leave_4 : decode b_FL_leave 4 = .ok (.getfield 62, 3) := by decide +kernel
theorem d_FL_leave_7 : decode b_FL_leave 7 = .ok (.iconst 3, 1) := by decide +kernel
theorem d_FL_leave_8 : decode b_FL_leave 8 = .ok (.if_icmp .ne 5, 3) := by decide +kernel
theorem d_FL_leave_11 : decode b_FL_leave 11 = .ok (.iconst 0, 1) := by decide +kernel
theorem d_FL_leave_12 : decode b_FL_leave 12 = .ok (.ireturn, 1) := by decide +kernel
theorem d_FL_leave_13 : decode b_FL_leave 13 = .ok (.aload_n 0, 1) := by decide +kernel
theorem d_FL_leave_14 : decode b_FL_leave 14 = .ok (.getfield 40, 3) := by decide +kernel
theorem d_FL_leave_17 : decode b_FL_leave 17 = .ok (.iconst 3, 1) := by decide +kernel
theorem d_FL_leave_18 : decode b_FL_leave 18 = .ok (.putfield 62, 3) := by decide +kernel
theorem d_FL_leave_21 : decode b_FL_leave 21 = .ok (.iconst 1, 1) := by decide +kernel
theorem d_FL_leave_22 : decode b_FL_leave 22 = .ok (.ireturn, 1) := by decide +kernel
theorem d_FL_writer_0 : decode b_FL_writer 0 = .ok (.iload_n 1, 1) := by decide +kernel
theorem d_FL_writer_1 : decode b_FL_writer 1 = .ok (.tableswitch 51 0 2 #[27, 35, 43], 27) := by decide +kernel
theorem d_FL_writer_28 : decode b_FL_writer 28 = .ok (.aload_n 0, 1) := by decide +kernel
theorem d_FL_writer_29 : decode b_FL_writer 29 = .ok (.getfield 40, 3) := by decide +kernel
theorem d_FL_writer_32 : decode b_FL_writer 32 = .ok (.getfield 62, 3) := by decide +kernel
theorem d_FL_writer_35 : decode b_FL_writer 35 = .ok (.ireturn, 1) := by decide +kernel
theorem d_FL_writer_36 : decode b_FL_writer 36 = .ok (.aload_n 0, 1) := by decide +kernel
theorem d_FL_writer_37 : decode b_FL_writer 37 = .ok (.getfield 40, 3) := by decide +kernel
theorem d_FL_writer_40 : decode b_FL_writer 40 = .ok (.getfield 101, 3) := by decide +kernel
theorem d_FL_writer_43 : decode b_FL_writer 43 = .ok (.ireturn, 1) := by decide +kernel
theorem d_FL_writer_44 : decode b_FL_writer 44 = .ok (.aload_n 0, 1) := by decide +kernel
theorem d_FL_writer_45 : decode b_FL_writer 45 = .ok (.getfield 40, 3) := by decide +kernel
theorem d_FL_writer_48 : decode b_FL_writer 48 = .ok (.getfield 92, 3) := by decide +kernel
theorem d_FL_writer_51 : decode b_FL_writer 51 = .ok (.ireturn, 1) := by decide +kernel
theorem d_FL_writer_52 : decode b_FL_writer 52 = .ok (.iconst (-1), 1) := by decide +kernel
theorem d_FL_writer_53 : decode b_FL_writer 53 = .ok (.ireturn, 1) := by decide +kernel
theorem d_FL_answers_0 : decode b_FL_answers 0 = .ok (.aload_n 0, 1) := by decide +kernel
theorem d_FL_answers_1 : decode b_FL_answers 1 = .ok (.getfield 40, 3) := by decide +kernel
theorem d_FL_answers_4 : decode b_FL_answers 4 = .ok (.iload_n 1, 1) := by decide +kernel
theorem d_FL_answers_5 : decode b_FL_answers 5 = .ok (.invokevirtual 88, 3) := by decide +kernel
theorem d_FL_answers_8 : decode b_FL_answers 8 = .ok (.ifCond .eq 14, 3) := by decide +kernel
theorem d_FL_answers_11 : decode b_FL_answers 11 = .ok (.aload_n 0, 1) := by decide +kernel
theorem d_FL_answers_12 : decode b_FL_answers 12 = .ok (.getfield 40, 3) := by decide +kernel
theorem d_FL_answers_15 : decode b_FL_answers 15 = .ok (.iload_n 1, 1) := by decide +kernel
theorem d_FL_answers_16 : decode b_FL_answers 16 = .ok (.invokevirtual 95, 3) := by decide +kernel
theorem d_FL_answers_19 : decode b_FL_answers 19 = .ok (.goto 4, 3) := by decide +kernel
theorem d_FL_answers_22 : decode b_FL_answers 22 = .ok (.iconst (-1), 1) := by decide +kernel
theorem d_FL_answers_23 : decode b_FL_answers 23 = .ok (.ireturn, 1) := by decide +kernel
theorem d_FL_isRecoverer_0 : decode b_FL_isRecoverer 0 = .ok (.iload_n 0, 1) := by decide +kernel
theorem d_FL_isRecoverer_1 : decode b_FL_isRecoverer 1 = .ok (.iconst 1, 1) := by decide +kernel
theorem d_FL_isRecoverer_2 : decode b_FL_isRecoverer 2 = .ok (.if_icmp .lt 12, 3) := by decide +kernel
theorem d_FL_isRecoverer_5 : decode b_FL_isRecoverer 5 = .ok (.iload_n 0, 1) := by decide +kernel
theorem d_FL_isRecoverer_6 : decode b_FL_isRecoverer 6 = .ok (.iconst 2, 1) := by decide +kernel
theorem d_FL_isRecoverer_7 : decode b_FL_isRecoverer 7 = .ok (.if_icmp .gt 7, 3) := by decide +kernel
theorem d_FL_isRecoverer_10 : decode b_FL_isRecoverer 10 = .ok (.iconst 1, 1) := by decide +kernel
theorem d_FL_isRecoverer_11 : decode b_FL_isRecoverer 11 = .ok (.goto 4, 3) := by decide +kernel
theorem d_FL_isRecoverer_14 : decode b_FL_isRecoverer 14 = .ok (.iconst 0, 1) := by decide +kernel
theorem d_FL_isRecoverer_15 : decode b_FL_isRecoverer 15 = .ok (.ireturn, 1) := by decide +kernel
theorem d_FL_sendFences_0 : decode b_FL_sendFences 0 = .ok (.iconst 0, 1) := by decide +kernel
theorem d_FL_sendFences_1 : decode b_FL_sendFences 1 = .ok (.istore_n 2, 1) := by decide +kernel
theorem d_FL_sendFences_2 : decode b_FL_sendFences 2 = .ok (.iconst 0, 1) := by decide +kernel
theorem d_FL_sendFences_3 : decode b_FL_sendFences 3 = .ok (.istore_n 3, 1) := by decide +kernel
theorem d_FL_sendFences_4 : decode b_FL_sendFences 4 = .ok (.iload_n 3, 1) := by decide +kernel
theorem d_FL_sendFences_5 : decode b_FL_sendFences 5 = .ok (.aload_n 0, 1) := by decide +kernel
theorem d_FL_sendFences_6 : decode b_FL_sendFences 6 = .ok (.getfield 13, 3) := by decide +kernel
theorem d_FL_sendFences_9 : decode b_FL_sendFences 9 = .ok (.if_icmp .ge 43, 3) := by decide +kernel
theorem d_FL_sendFences_12 : decode b_FL_sendFences 12 = .ok (.aload_n 1, 1) := by decide +kernel
theorem d_FL_sendFences_13 : decode b_FL_sendFences 13 = .ok (.getfield 213, 3) := by decide +kernel
theorem d_FL_sendFences_16 : decode b_FL_sendFences 16 = .ok (.iconst 1, 1) := by decide +kernel
theorem d_FL_sendFences_17 : decode b_FL_sendFences 17 = .ok (.iload_n 3, 1) := by decide +kernel
theorem d_FL_sendFences_18 : decode b_FL_sendFences 18 = .ok (.ishl, 1) := by decide +kernel
theorem d_FL_sendFences_19 : decode b_FL_sendFences 19 = .ok (.iand, 1) := by decide +kernel
theorem d_FL_sendFences_20 : decode b_FL_sendFences 20 = .ok (.ifCond .ne 26, 3) := by decide +kernel
theorem d_FL_sendFences_23 : decode b_FL_sendFences 23 = .ok (.aload_n 0, 1) := by decide +kernel
theorem d_FL_sendFences_24 : decode b_FL_sendFences 24 = .ok (.getfield 33, 3) := by decide +kernel
theorem d_FL_sendFences_27 : decode b_FL_sendFences 27 = .ok (.iconst 1, 1) := by decide +kernel
theorem d_FL_sendFences_28 : decode b_FL_sendFences 28 = .ok (.aload_n 1, 1) := by decide +kernel
theorem d_FL_sendFences_29 : decode b_FL_sendFences 29 = .ok (.getfield 215, 3) := by decide +kernel
theorem d_FL_sendFences_32 : decode b_FL_sendFences 32 = .ok (.iload_n 3, 1) := by decide +kernel
theorem d_FL_sendFences_33 : decode b_FL_sendFences 33 = .ok (.iconst 0, 1) := by decide +kernel
theorem d_FL_sendFences_34 : decode b_FL_sendFences 34 = .ok (.iconst 0, 1) := by decide +kernel
theorem d_FL_sendFences_35 : decode b_FL_sendFences 35 = .ok (.aload_n 1, 1) := by decide +kernel
theorem d_FL_sendFences_36 : decode b_FL_sendFences 36 = .ok (.getfield 216, 3) := by decide +kernel
theorem d_FL_sendFences_39 : decode b_FL_sendFences 39 = .ok (.iconst 0, 1) := by decide +kernel
theorem d_FL_sendFences_40 : decode b_FL_sendFences 40 = .ok (.invokevirtual 209, 3) := by decide +kernel
theorem d_FL_sendFences_43 : decode b_FL_sendFences 43 = .ok (.iinc 2 1, 3) := by decide +kernel
theorem d_FL_sendFences_46 : decode b_FL_sendFences 46 = .ok (.iinc 3 1, 3) := by decide +kernel
theorem d_FL_sendFences_49 : decode b_FL_sendFences 49 = .ok (.goto (-45), 3) := by decide +kernel
theorem d_FL_sendFences_52 : decode b_FL_sendFences 52 = .ok (.iload_n 2, 1) := by decide +kernel
theorem d_FL_sendFences_53 : decode b_FL_sendFences 53 = .ok (.ireturn, 1) := by decide +kernel
theorem d_FL_sendStep_0 : decode b_FL_sendStep 0 = .ok (.aload_n 1, 1) := by decide +kernel
theorem d_FL_sendStep_1 : decode b_FL_sendStep 1 = .ok (.getfield 107, 3) := by decide +kernel
theorem d_FL_sendStep_4 : decode b_FL_sendStep 4 = .ok (.lookupswitch 58 #[(1, 28), (2, 34)], 28) := by decide +kernel
theorem d_FL_sendStep_32 : decode b_FL_sendStep 32 = .ok (.aload_n 0, 1) := by decide +kernel
theorem d_FL_sendStep_33 : decode b_FL_sendStep 33 = .ok (.aload_n 1, 1) := by decide +kernel
theorem d_FL_sendStep_34 : decode b_FL_sendStep 34 = .ok (.invokevirtual 219, 3) := by decide +kernel
theorem d_FL_sendStep_37 : decode b_FL_sendStep 37 = .ok (.ireturn, 1) := by decide +kernel
theorem d_FL_sendStep_38 : decode b_FL_sendStep 38 = .ok (.aload_n 0, 1) := by decide +kernel
theorem d_FL_sendStep_39 : decode b_FL_sendStep 39 = .ok (.iconst 2, 1) := by decide +kernel
theorem d_FL_sendStep_40 : decode b_FL_sendStep 40 = .ok (.aload_n 1, 1) := by decide +kernel
theorem d_FL_sendStep_41 : decode b_FL_sendStep 41 = .ok (.getfield 215, 3) := by decide +kernel
theorem d_FL_sendStep_44 : decode b_FL_sendStep 44 = .ok (.aload_n 1, 1) := by decide +kernel
theorem d_FL_sendStep_45 : decode b_FL_sendStep 45 = .ok (.getfield 222, 3) := by decide +kernel
theorem d_FL_sendStep_48 : decode b_FL_sendStep 48 = .ok (.iconst 0, 1) := by decide +kernel
theorem d_FL_sendStep_49 : decode b_FL_sendStep 49 = .ok (.aload_n 1, 1) := by decide +kernel
theorem d_FL_sendStep_50 : decode b_FL_sendStep 50 = .ok (.getfield 216, 3) := by decide +kernel
theorem d_FL_sendStep_53 : decode b_FL_sendStep 53 = .ok (.iconst 0, 1) := by decide +kernel
theorem d_FL_sendStep_54 : decode b_FL_sendStep 54 = .ok (.aload_n 1, 1) := by decide +kernel
theorem d_FL_sendStep_55 : decode b_FL_sendStep 55 = .ok (.getfield 213, 3) := by decide +kernel
theorem d_FL_sendStep_58 : decode b_FL_sendStep 58 = .ok (.invokevirtual 205, 3) := by decide +kernel
theorem d_FL_sendStep_61 : decode b_FL_sendStep 61 = .ok (.ireturn, 1) := by decide +kernel
theorem d_FL_sendStep_62 : decode b_FL_sendStep 62 = .ok (.aload_n 0, 1) := by decide +kernel
theorem d_FL_sendStep_63 : decode b_FL_sendStep 63 = .ok (.iconst 0, 1) := by decide +kernel
theorem d_FL_sendStep_64 : decode b_FL_sendStep 64 = .ok (.aload_n 1, 1) := by decide +kernel
theorem d_FL_sendStep_65 : decode b_FL_sendStep 65 = .ok (.getfield 215, 3) := by decide +kernel
theorem d_FL_sendStep_68 : decode b_FL_sendStep 68 = .ok (.aload_n 1, 1) := by decide +kernel
theorem d_FL_sendStep_69 : decode b_FL_sendStep 69 = .ok (.getfield 222, 3) := by decide +kernel
theorem d_FL_sendStep_72 : decode b_FL_sendStep 72 = .ok (.aload_n 1, 1) := by decide +kernel
theorem d_FL_sendStep_73 : decode b_FL_sendStep 73 = .ok (.getfield 225, 3) := by decide +kernel
theorem d_FL_sendStep_76 : decode b_FL_sendStep 76 = .ok (.aload_n 1, 1) := by decide +kernel
theorem d_FL_sendStep_77 : decode b_FL_sendStep 77 = .ok (.getfield 216, 3) := by decide +kernel
theorem d_FL_sendStep_80 : decode b_FL_sendStep 80 = .ok (.aload_n 1, 1) := by decide +kernel
theorem d_FL_sendStep_81 : decode b_FL_sendStep 81 = .ok (.getfield 222, 3) := by decide +kernel
theorem d_FL_sendStep_84 : decode b_FL_sendStep 84 = .ok (.iconst 1, 1) := by decide +kernel
theorem d_FL_sendStep_85 : decode b_FL_sendStep 85 = .ok (.isub, 1) := by decide +kernel
theorem d_FL_sendStep_86 : decode b_FL_sendStep 86 = .ok (.aload_n 1, 1) := by decide +kernel
theorem d_FL_sendStep_87 : decode b_FL_sendStep 87 = .ok (.getfield 213, 3) := by decide +kernel
theorem d_FL_sendStep_90 : decode b_FL_sendStep 90 = .ok (.invokevirtual 205, 3) := by decide +kernel
theorem d_FL_sendStep_93 : decode b_FL_sendStep 93 = .ok (.ireturn, 1) := by decide +kernel
theorem d_FL_recover_0 : decode b_FL_recover 0 = .ok (.iload_n 1, 1) := by decide +kernel
theorem d_FL_recover_1 : decode b_FL_recover 1 = .ok (.invokestatic 104, 3) := by decide +kernel
theorem d_FL_recover_4 : decode b_FL_recover 4 = .ok (.ifCond .eq 17, 3) := by decide +kernel
theorem d_FL_recover_7 : decode b_FL_recover 7 = .ok (.aload_n 0, 1) := by decide +kernel
theorem d_FL_recover_8 : decode b_FL_recover 8 = .ok (.getfield 46, 3) := by decide +kernel
theorem d_FL_recover_11 : decode b_FL_recover 11 = .ok (.iload_n 1, 1) := by decide +kernel
theorem d_FL_recover_12 : decode b_FL_recover 12 = .ok (.iconst 1, 1) := by decide +kernel
theorem d_FL_recover_13 : decode b_FL_recover 13 = .ok (.isub, 1) := by decide +kernel
theorem d_FL_recover_14 : decode b_FL_recover 14 = .ok (.aaload, 1) := by decide +kernel
theorem d_FL_recover_15 : decode b_FL_recover 15 = .ok (.getfield 107, 3) := by decide +kernel
theorem d_FL_recover_18 : decode b_FL_recover 18 = .ok (.ifCond .eq 5, 3) := by decide +kernel
theorem d_FL_recover_21 : decode b_FL_recover 21 = .ok (.iconst 0, 1) := by decide +kernel
theorem d_FL_recover_22 : decode b_FL_recover 22 = .ok (.ireturn, 1) := by decide +kernel
theorem d_FL_recover_23 : decode b_FL_recover 23 = .ok (.aload_n 0, 1) := by decide +kernel
theorem d_FL_recover_24 : decode b_FL_recover 24 = .ok (.getfield 46, 3) := by decide +kernel
theorem d_FL_recover_27 : decode b_FL_recover 27 = .ok (.iload_n 1, 1) := by decide +kernel
theorem d_FL_recover_28 : decode b_FL_recover 28 = .ok (.iconst 1, 1) := by decide +kernel
theorem d_FL_recover_29 : decode b_FL_recover 29 = .ok (.isub, 1) := by decide +kernel
theorem d_FL_recover_30 : decode b_FL_recover 30 = .ok (.aaload, 1) := by decide +kernel
theorem d_FL_recover_31 : decode b_FL_recover 31 = .ok (.astore_n 2, 1) := by decide +kernel
theorem d_FL_recover_32 : decode b_FL_recover 32 = .ok (.aload_n 0, 1) := by decide +kernel
theorem d_FL_recover_33 : decode b_FL_recover 33 = .ok (.getfield 53, 3) := by decide +kernel
theorem d_FL_recover_36 : decode b_FL_recover 36 = .ok (.iconst 2, 1) := by decide +kernel
theorem d_FL_recover_37 : decode b_FL_recover 37 = .ok (.if_icmp .ne 10, 3) := by decide +kernel
theorem d_FL_recover_40 : decode b_FL_recover 40 = .ok (.aload_n 2, 1) := by decide +kernel
theorem d_FL_recover_41 : decode b_FL_recover 41 = .ok (.iconst 4, 1) := by decide +kernel
theorem d_FL_recover_42 : decode b_FL_recover 42 = .ok (.putfield 107, 3) := by decide +kernel
theorem d_FL_recover_45 : decode b_FL_recover 45 = .ok (.iconst 1, 1) := by decide +kernel
theorem d_FL_recover_46 : decode b_FL_recover 46 = .ok (.ireturn, 1) := by decide +kernel
theorem d_FL_recover_47 : decode b_FL_recover 47 = .ok (.aload_n 0, 1) := by decide +kernel
theorem d_FL_recover_48 : decode b_FL_recover 48 = .ok (.iconst 1, 1) := by decide +kernel
theorem d_FL_recover_49 : decode b_FL_recover 49 = .ok (.putfield 53, 3) := by decide +kernel
end
section
theorem d_FL_recover_52 : decode b_FL_recover 52 = .ok (.aload_n 0, 1) := by decide +kernel
theorem d_FL_recover_53 : decode b_FL_recover 53 = .ok (.dup, 1) := by decide +kernel
theorem d_FL_recover_54 : decode b_FL_recover 54 = .ok (.getfield 56, 3) := by decide +kernel
theorem d_FL_recover_57 : decode b_FL_recover 57 = .ok (.iconst 1, 1) := by decide +kernel
theorem d_FL_recover_58 : decode b_FL_recover 58 = .ok (.iadd, 1) := by decide +kernel
theorem d_FL_recover_59 : decode b_FL_recover 59 = .ok (.putfield 56, 3) := by decide +kernel
theorem d_FL_recover_62 : decode b_FL_recover 62 = .ok (.aload_n 2, 1) := by decide +kernel
theorem d_FL_recover_63 : decode b_FL_recover 63 = .ok (.aload_n 0, 1) := by decide +kernel
theorem d_FL_recover_64 : decode b_FL_recover 64 = .ok (.getfield 56, 3) := by decide +kernel
theorem d_FL_recover_67 : decode b_FL_recover 67 = .ok (.invokevirtual 108, 3) := by decide +kernel
theorem d_FL_recover_70 : decode b_FL_recover 70 = .ok (.aload_n 0, 1) := by decide +kernel
theorem d_FL_recover_71 : decode b_FL_recover 71 = .ok (.aload_n 2, 1) := by decide +kernel
theorem d_FL_recover_72 : decode b_FL_recover 72 = .ok (.invokevirtual 111, 3) := by decide +kernel
theorem d_FL_recover_75 : decode b_FL_recover 75 = .ok (.pop, 1) := by decide +kernel
theorem d_FL_recover_76 : decode b_FL_recover 76 = .ok (.iconst 1, 1) := by decide +kernel
theorem d_FL_recover_77 : decode b_FL_recover 77 = .ok (.ireturn, 1) := by decide +kernel
theorem d_FL_retry_0 : decode b_FL_retry 0 = .ok (.iload_n 1, 1) := by decide +kernel
theorem d_FL_retry_1 : decode b_FL_retry 1 = .ok (.invokestatic 104, 3) := by decide +kernel
theorem d_FL_retry_4 : decode b_FL_retry 4 = .ok (.ifCond .eq 17, 3) := by decide +kernel
theorem d_FL_retry_7 : decode b_FL_retry 7 = .ok (.aload_n 0, 1) := by decide +kernel
theorem d_FL_retry_8 : decode b_FL_retry 8 = .ok (.getfield 46, 3) := by decide +kernel
theorem d_FL_retry_11 : decode b_FL_retry 11 = .ok (.iload_n 1, 1) := by decide +kernel
theorem d_FL_retry_12 : decode b_FL_retry 12 = .ok (.iconst 1, 1) := by decide +kernel
theorem d_FL_retry_13 : decode b_FL_retry 13 = .ok (.isub, 1) := by decide +kernel
theorem d_FL_retry_14 : decode b_FL_retry 14 = .ok (.aaload, 1) := by decide +kernel
theorem d_FL_retry_15 : decode b_FL_retry 15 = .ok (.invokevirtual 115, 3) := by decide +kernel
theorem d_FL_retry_18 : decode b_FL_retry 18 = .ok (.ifCond .ne 5, 3) := by decide +kernel
theorem d_FL_retry_21 : decode b_FL_retry 21 = .ok (.iconst (-1), 1) := by decide +kernel
theorem d_FL_retry_22 : decode b_FL_retry 22 = .ok (.ireturn, 1) := by decide +kernel
theorem d_FL_retry_23 : decode b_FL_retry 23 = .ok (.aload_n 0, 1) := by decide +kernel
theorem d_FL_retry_24 : decode b_FL_retry 24 = .ok (.aload_n 0, 1) := by decide +kernel
theorem d_FL_retry_25 : decode b_FL_retry 25 = .ok (.getfield 46, 3) := by decide +kernel
theorem d_FL_retry_28 : decode b_FL_retry 28 = .ok (.iload_n 1, 1) := by decide +kernel
theorem d_FL_retry_29 : decode b_FL_retry 29 = .ok (.iconst 1, 1) := by decide +kernel
theorem d_FL_retry_30 : decode b_FL_retry 30 = .ok (.isub, 1) := by decide +kernel
theorem d_FL_retry_31 : decode b_FL_retry 31 = .ok (.aaload, 1) := by decide +kernel
theorem d_FL_retry_32 : decode b_FL_retry 32 = .ok (.invokevirtual 111, 3) := by decide +kernel
theorem d_FL_retry_35 : decode b_FL_retry 35 = .ok (.ireturn, 1) := by decide +kernel
theorem d_FL_abandon_0 : decode b_FL_abandon 0 = .ok (.iload_n 1, 1) := by decide +kernel
theorem d_FL_abandon_1 : decode b_FL_abandon 1 = .ok (.invokestatic 104, 3) := by decide +kernel
theorem d_FL_abandon_4 : decode b_FL_abandon 4 = .ok (.ifCond .eq 17, 3) := by decide +kernel
theorem d_FL_abandon_7 : decode b_FL_abandon 7 = .ok (.aload_n 0, 1) := by decide +kernel
theorem d_FL_abandon_8 : decode b_FL_abandon 8 = .ok (.getfield 46, 3) := by decide +kernel
theorem d_FL_abandon_11 : decode b_FL_abandon 11 = .ok (.iload_n 1, 1) := by decide +kernel
theorem d_FL_abandon_12 : decode b_FL_abandon 12 = .ok (.iconst 1, 1) := by decide +kernel
theorem d_FL_abandon_13 : decode b_FL_abandon 13 = .ok (.isub, 1) := by decide +kernel
theorem d_FL_abandon_14 : decode b_FL_abandon 14 = .ok (.aaload, 1) := by decide +kernel
theorem d_FL_abandon_15 : decode b_FL_abandon 15 = .ok (.invokevirtual 115, 3) := by decide +kernel
theorem d_FL_abandon_18 : decode b_FL_abandon 18 = .ok (.ifCond .ne 5, 3) := by decide +kernel
theorem d_FL_abandon_21 : decode b_FL_abandon 21 = .ok (.iconst 0, 1) := by decide +kernel
theorem d_FL_abandon_22 : decode b_FL_abandon 22 = .ok (.ireturn, 1) := by decide +kernel
theorem d_FL_abandon_23 : decode b_FL_abandon 23 = .ok (.aload_n 0, 1) := by decide +kernel
theorem d_FL_abandon_24 : decode b_FL_abandon 24 = .ok (.getfield 46, 3) := by decide +kernel
theorem d_FL_abandon_27 : decode b_FL_abandon 27 = .ok (.iload_n 1, 1) := by decide +kernel
theorem d_FL_abandon_28 : decode b_FL_abandon 28 = .ok (.iconst 1, 1) := by decide +kernel
theorem d_FL_abandon_29 : decode b_FL_abandon 29 = .ok (.isub, 1) := by decide +kernel
theorem d_FL_abandon_30 : decode b_FL_abandon 30 = .ok (.aaload, 1) := by decide +kernel
theorem d_FL_abandon_31 : decode b_FL_abandon 31 = .ok (.iconst 0, 1) := by decide +kernel
theorem d_FL_abandon_32 : decode b_FL_abandon 32 = .ok (.putfield 107, 3) := by decide +kernel
theorem d_FL_abandon_35 : decode b_FL_abandon 35 = .ok (.iconst 1, 1) := by decide +kernel
theorem d_FL_abandon_36 : decode b_FL_abandon 36 = .ok (.ireturn, 1) := by decide +kernel
theorem d_FL_recoverer_0 : decode b_FL_recoverer 0 = .ok (.iload_n 1, 1) := by decide +kernel
theorem d_FL_recoverer_1 : decode b_FL_recoverer 1 = .ok (.invokestatic 104, 3) := by decide +kernel
theorem d_FL_recoverer_4 : decode b_FL_recoverer 4 = .ok (.ifCond .ne 5, 3) := by decide +kernel
theorem d_FL_recoverer_7 : decode b_FL_recoverer 7 = .ok (.iconst (-1), 1) := by decide +kernel
theorem d_FL_recoverer_8 : decode b_FL_recoverer 8 = .ok (.ireturn, 1) := by decide +kernel
theorem d_FL_recoverer_9 : decode b_FL_recoverer 9 = .ok (.aload_n 0, 1) := by decide +kernel
theorem d_FL_recoverer_10 : decode b_FL_recoverer 10 = .ok (.getfield 46, 3) := by decide +kernel
theorem d_FL_recoverer_13 : decode b_FL_recoverer 13 = .ok (.iload_n 1, 1) := by decide +kernel
theorem d_FL_recoverer_14 : decode b_FL_recoverer 14 = .ok (.iconst 1, 1) := by decide +kernel
theorem d_FL_recoverer_15 : decode b_FL_recoverer 15 = .ok (.isub, 1) := by decide +kernel
theorem d_FL_recoverer_16 : decode b_FL_recoverer 16 = .ok (.aaload, 1) := by decide +kernel
theorem d_FL_recoverer_17 : decode b_FL_recoverer 17 = .ok (.iload_n 2, 1) := by decide +kernel
theorem d_FL_recoverer_18 : decode b_FL_recoverer 18 = .ok (.invokevirtual 118, 3) := by decide +kernel
theorem d_FL_recoverer_21 : decode b_FL_recoverer 21 = .ok (.ireturn, 1) := by decide +kernel
theorem d_FL_finish_0 : decode b_FL_finish 0 = .ok (.aload_n 0, 1) := by decide +kernel
theorem d_FL_finish_1 : decode b_FL_finish 1 = .ok (.getfield 53, 3) := by decide +kernel
theorem d_FL_finish_4 : decode b_FL_finish 4 = .ok (.iconst 1, 1) := by decide +kernel
theorem d_FL_finish_5 : decode b_FL_finish 5 = .ok (.if_icmp .ne 19, 3) := by decide +kernel
theorem d_FL_finish_8 : decode b_FL_finish 8 = .ok (.aload_n 0, 1) := by decide +kernel
theorem d_FL_finish_9 : decode b_FL_finish 9 = .ok (.getfield 56, 3) := by decide +kernel
theorem d_FL_finish_12 : decode b_FL_finish 12 = .ok (.aload_n 1, 1) := by decide +kernel
theorem d_FL_finish_13 : decode b_FL_finish 13 = .ok (.getfield 216, 3) := by decide +kernel
theorem d_FL_finish_16 : decode b_FL_finish 16 = .ok (.if_icmp .ne 8, 3) := by decide +kernel
theorem d_FL_finish_19 : decode b_FL_finish 19 = .ok (.aload_n 0, 1) := by decide +kernel
theorem d_FL_finish_20 : decode b_FL_finish 20 = .ok (.iload_n 2, 1) := by decide +kernel
theorem d_FL_finish_21 : decode b_FL_finish 21 = .ok (.invokevirtual 98, 3) := by decide +kernel
theorem d_FL_finish_24 : decode b_FL_finish 24 = .ok (.aload_n 1, 1) := by decide +kernel
theorem d_FL_finish_25 : decode b_FL_finish 25 = .ok (.aload_n 0, 1) := by decide +kernel
theorem d_FL_finish_26 : decode b_FL_finish 26 = .ok (.getfield 53, 3) := by decide +kernel
theorem d_FL_finish_29 : decode b_FL_finish 29 = .ok (.iconst 2, 1) := by decide +kernel
theorem d_FL_finish_30 : decode b_FL_finish 30 = .ok (.if_icmp .ne 7, 3) := by decide +kernel
theorem d_FL_finish_33 : decode b_FL_finish 33 = .ok (.iconst 4, 1) := by decide +kernel
theorem d_FL_finish_34 : decode b_FL_finish 34 = .ok (.goto 4, 3) := by decide +kernel
theorem d_FL_finish_37 : decode b_FL_finish 37 = .ok (.iconst 0, 1) := by decide +kernel
theorem d_FL_finish_38 : decode b_FL_finish 38 = .ok (.putfield 107, 3) := by decide +kernel
theorem d_FL_finish_41 : decode b_FL_finish 41 = .ok (.return_, 1) := by decide +kernel
theorem d_FL_readOn_0 : decode b_FL_readOn 0 = .ok (.iload_n 2, 1) := by decide +kernel
theorem d_FL_readOn_1 : decode b_FL_readOn 1 = .ok (.bipush 20, 2) := by decide +kernel
theorem d_FL_readOn_3 : decode b_FL_readOn 3 = .ok (.if_icmp .lt 12, 3) := by decide +kernel
theorem d_FL_readOn_6 : decode b_FL_readOn 6 = .ok (.aload_n 0, 1) := by decide +kernel
theorem d_FL_readOn_7 : decode b_FL_readOn 7 = .ok (.aload_n 1, 1) := by decide +kernel
theorem d_FL_readOn_8 : decode b_FL_readOn 8 = .ok (.iload_n 2, 1) := by decide +kernel
theorem d_FL_readOn_9 : decode b_FL_readOn 9 = .ok (.iconst 1, 1) := by decide +kernel
theorem d_FL_readOn_10 : decode b_FL_readOn 10 = .ok (.isub, 1) := by decide +kernel
theorem d_FL_readOn_11 : decode b_FL_readOn 11 = .ok (.invokevirtual 287, 3) := by decide +kernel
theorem d_FL_readOn_14 : decode b_FL_readOn 14 = .ok (.return_, 1) := by decide +kernel
theorem d_FL_readOn_15 : decode b_FL_readOn 15 = .ok (.aload_n 1, 1) := by decide +kernel
theorem d_FL_readOn_16 : decode b_FL_readOn 16 = .ok (.iload_n 2, 1) := by decide +kernel
theorem d_FL_readOn_17 : decode b_FL_readOn 17 = .ok (.invokevirtual 293, 3) := by decide +kernel
theorem d_FL_readOn_20 : decode b_FL_readOn 20 = .ok (.aload_n 0, 1) := by decide +kernel
theorem d_FL_readOn_21 : decode b_FL_readOn 21 = .ok (.aload_n 1, 1) := by decide +kernel
theorem d_FL_readOn_22 : decode b_FL_readOn 22 = .ok (.invokevirtual 111, 3) := by decide +kernel
theorem d_FL_readOn_25 : decode b_FL_readOn 25 = .ok (.pop, 1) := by decide +kernel
theorem d_FL_readOn_26 : decode b_FL_readOn 26 = .ok (.return_, 1) := by decide +kernel
theorem d_FL_hearAdded_0 : decode b_FL_hearAdded 0 = .ok (.aload_n 1, 1) := by decide +kernel
theorem d_FL_hearAdded_1 : decode b_FL_hearAdded 1 = .ok (.aload_n 2, 1) := by decide +kernel
theorem d_FL_hearAdded_2 : decode b_FL_hearAdded 2 = .ok (.getfield 228, 3) := by decide +kernel
theorem d_FL_hearAdded_5 : decode b_FL_hearAdded 5 = .ok (.invokevirtual 270, 3) := by decide +kernel
theorem d_FL_hearAdded_8 : decode b_FL_hearAdded 8 = .ok (.aload_n 1, 1) := by decide +kernel
theorem d_FL_hearAdded_9 : decode b_FL_hearAdded 9 = .ok (.invokevirtual 283, 3) := by decide +kernel
theorem d_FL_hearAdded_12 : decode b_FL_hearAdded 12 = .ok (.aload_n 0, 1) := by decide +kernel
theorem d_FL_hearAdded_13 : decode b_FL_hearAdded 13 = .ok (.getfield 20, 3) := by decide +kernel
theorem d_FL_hearAdded_16 : decode b_FL_hearAdded 16 = .ok (.if_icmp .lt 14, 3) := by decide +kernel
theorem d_FL_hearAdded_19 : decode b_FL_hearAdded 19 = .ok (.aload_n 0, 1) := by decide +kernel
theorem d_FL_hearAdded_20 : decode b_FL_hearAdded 20 = .ok (.aload_n 1, 1) := by decide +kernel
theorem d_FL_hearAdded_21 : decode b_FL_hearAdded 21 = .ok (.aload_n 1, 1) := by decide +kernel
theorem d_FL_hearAdded_22 : decode b_FL_hearAdded 22 = .ok (.getfield 222, 3) := by decide +kernel
theorem d_FL_hearAdded_25 : decode b_FL_hearAdded 25 = .ok (.iconst 1, 1) := by decide +kernel
theorem d_FL_hearAdded_26 : decode b_FL_hearAdded 26 = .ok (.iadd, 1) := by decide +kernel
theorem d_FL_hearAdded_27 : decode b_FL_hearAdded 27 = .ok (.invokevirtual 279, 3) := by decide +kernel
theorem d_FL_hearAdded_30 : decode b_FL_hearAdded 30 = .ok (.return_, 1) := by decide +kernel
theorem d_FL_hearMissing_0 : decode b_FL_hearMissing 0 = .ok (.aload_n 1, 1) := by decide +kernel
theorem d_FL_hearMissing_1 : decode b_FL_hearMissing 1 = .ok (.aload_n 2, 1) := by decide +kernel
theorem d_FL_hearMissing_2 : decode b_FL_hearMissing 2 = .ok (.getfield 228, 3) := by decide +kernel
theorem d_FL_hearMissing_5 : decode b_FL_hearMissing 5 = .ok (.invokevirtual 270, 3) := by decide +kernel
theorem d_FL_hearMissing_8 : decode b_FL_hearMissing 8 = .ok (.aload_n 1, 1) := by decide +kernel
theorem d_FL_hearMissing_9 : decode b_FL_hearMissing 9 = .ok (.invokevirtual 283, 3) := by decide +kernel
theorem d_FL_hearMissing_12 : decode b_FL_hearMissing 12 = .ok (.aload_n 0, 1) := by decide +kernel
theorem d_FL_hearMissing_13 : decode b_FL_hearMissing 13 = .ok (.getfield 17, 3) := by decide +kernel
theorem d_FL_hearMissing_16 : decode b_FL_hearMissing 16 = .ok (.aload_n 0, 1) := by decide +kernel
theorem d_FL_hearMissing_17 : decode b_FL_hearMissing 17 = .ok (.getfield 20, 3) := by decide +kernel
theorem d_FL_hearMissing_20 : decode b_FL_hearMissing 20 = .ok (.isub, 1) := by decide +kernel
theorem d_FL_hearMissing_21 : decode b_FL_hearMissing 21 = .ok (.iconst 1, 1) := by decide +kernel
theorem d_FL_hearMissing_22 : decode b_FL_hearMissing 22 = .ok (.iadd, 1) := by decide +kernel
theorem d_FL_hearMissing_23 : decode b_FL_hearMissing 23 = .ok (.if_icmp .lt 14, 3) := by decide +kernel
theorem d_FL_hearMissing_26 : decode b_FL_hearMissing 26 = .ok (.aload_n 0, 1) := by decide +kernel
theorem d_FL_hearMissing_27 : decode b_FL_hearMissing 27 = .ok (.aload_n 1, 1) := by decide +kernel
theorem d_FL_hearMissing_28 : decode b_FL_hearMissing 28 = .ok (.aload_n 1, 1) := by decide +kernel
theorem d_FL_hearMissing_29 : decode b_FL_hearMissing 29 = .ok (.getfield 222, 3) := by decide +kernel
theorem d_FL_hearMissing_32 : decode b_FL_hearMissing 32 = .ok (.iconst 1, 1) := by decide +kernel
theorem d_FL_hearMissing_33 : decode b_FL_hearMissing 33 = .ok (.isub, 1) := by decide +kernel
theorem d_FL_hearMissing_34 : decode b_FL_hearMissing 34 = .ok (.invokevirtual 287, 3) := by decide +kernel
theorem d_FL_hearMissing_37 : decode b_FL_hearMissing 37 = .ok (.return_, 1) := by decide +kernel
theorem d_FL_countSilent_0 : decode b_FL_countSilent 0 = .ok (.iconst 0, 1) := by decide +kernel
theorem d_FL_countSilent_1 : decode b_FL_countSilent 1 = .ok (.istore_n 3, 1) := by decide +kernel
theorem d_FL_countSilent_2 : decode b_FL_countSilent 2 = .ok (.iconst 0, 1) := by decide +kernel
theorem d_FL_countSilent_3 : decode b_FL_countSilent 3 = .ok (.istore 4, 2) := by decide +kernel
theorem d_FL_countSilent_5 : decode b_FL_countSilent 5 = .ok (.iload 4, 2) := by decide +kernel
theorem d_FL_countSilent_7 : decode b_FL_countSilent 7 = .ok (.aload_n 0, 1) := by decide +kernel
theorem d_FL_countSilent_8 : decode b_FL_countSilent 8 = .ok (.getfield 17, 3) := by decide +kernel
theorem d_FL_countSilent_11 : decode b_FL_countSilent 11 = .ok (.if_icmp .ge 26, 3) := by decide +kernel
theorem d_FL_countSilent_14 : decode b_FL_countSilent 14 = .ok (.iload_n 2, 1) := by decide +kernel
theorem d_FL_countSilent_15 : decode b_FL_countSilent 15 = .ok (.iconst 1, 1) := by decide +kernel
theorem d_FL_countSilent_16 : decode b_FL_countSilent 16 = .ok (.aload_n 0, 1) := by decide +kernel
theorem d_FL_countSilent_17 : decode b_FL_countSilent 17 = .ok (.iload_n 1, 1) := by decide +kernel
theorem d_FL_countSilent_18 : decode b_FL_countSilent 18 = .ok (.iload 4, 2) := by decide +kernel
theorem d_FL_countSilent_20 : decode b_FL_countSilent 20 = .ok (.invokevirtual 198, 3) := by decide +kernel
theorem d_FL_countSilent_23 : decode b_FL_countSilent 23 = .ok (.ishl, 1) := by decide +kernel
theorem d_FL_countSilent_24 : decode b_FL_countSilent 24 = .ok (.iand, 1) := by decide +kernel
theorem d_FL_countSilent_25 : decode b_FL_countSilent 25 = .ok (.ifCond .ne 6, 3) := by decide +kernel
theorem d_FL_countSilent_28 : decode b_FL_countSilent 28 = .ok (.iinc 3 1, 3) := by decide +kernel
theorem d_FL_countSilent_31 : decode b_FL_countSilent 31 = .ok (.iinc 4 1, 3) := by decide +kernel
theorem d_FL_countSilent_34 : decode b_FL_countSilent 34 = .ok (.goto (-29), 3) := by decide +kernel
theorem d_FL_countSilent_37 : decode b_FL_countSilent 37 = .ok (.iload_n 3, 1) := by decide +kernel
theorem d_FL_countSilent_38 : decode b_FL_countSilent 38 = .ok (.ireturn, 1) := by decide +kernel
theorem d_FL_isWriterFencedOut_0 : decode b_FL_isWriterFencedOut 0 = .ok (.iconst 0, 1) := by decide +kernel
theorem d_FL_isWriterFencedOut_1 : decode b_FL_isWriterFencedOut 1 = .ok (.istore_n 2, 1) := by decide +kernel
theorem d_FL_isWriterFencedOut_2 : decode b_FL_isWriterFencedOut 2 = .ok (.iload_n 2, 1) := by decide +kernel
theorem d_FL_isWriterFencedOut_3 : decode b_FL_isWriterFencedOut 3 = .ok (.aload_n 0, 1) := by decide +kernel
theorem d_FL_isWriterFencedOut_4 : decode b_FL_isWriterFencedOut 4 = .ok (.getfield 13, 3) := by decide +kernel
theorem d_FL_isWriterFencedOut_7 : decode b_FL_isWriterFencedOut 7 = .ok (.if_icmp .ge 24, 3) := by decide +kernel
theorem d_FL_isWriterFencedOut_10 : decode b_FL_isWriterFencedOut 10 = .ok (.aload_n 0, 1) := by decide +kernel
theorem d_FL_isWriterFencedOut_11 : decode b_FL_isWriterFencedOut 11 = .ok (.iload_n 2, 1) := by decide +kernel
theorem d_FL_isWriterFencedOut_12 : decode b_FL_isWriterFencedOut 12 = .ok (.iload_n 1, 1) := by decide +kernel
theorem d_FL_isWriterFencedOut_13 : decode b_FL_isWriterFencedOut 13 = .ok (.invokevirtual 290, 3) := by decide +kernel
theorem d_FL_isWriterFencedOut_16 : decode b_FL_isWriterFencedOut 16 = .ok (.aload_n 0, 1) := by decide +kernel
theorem d_FL_isWriterFencedOut_17 : decode b_FL_isWriterFencedOut 17 = .ok (.getfield 20, 3) := by decide +kernel
theorem d_FL_isWriterFencedOut_20 : decode b_FL_isWriterFencedOut 20 = .ok (.if_icmp .lt 5, 3) := by decide +kernel
theorem d_FL_isWriterFencedOut_23 : decode b_FL_isWriterFencedOut 23 = .ok (.iconst 0, 1) := by decide +kernel
theorem d_FL_isWriterFencedOut_24 : decode b_FL_isWriterFencedOut 24 = .ok (.ireturn, 1) := by decide +kernel
theorem d_FL_isWriterFencedOut_25 : decode b_FL_isWriterFencedOut 25 = .ok (.iinc 2 1, 3) := by decide +kernel
theorem d_FL_isWriterFencedOut_28 : decode b_FL_isWriterFencedOut 28 = .ok (.goto (-26), 3) := by decide +kernel
theorem d_FL_isWriterFencedOut_31 : decode b_FL_isWriterFencedOut 31 = .ok (.iconst 1, 1) := by decide +kernel
theorem d_FL_isWriterFencedOut_32 : decode b_FL_isWriterFencedOut 32 = .ok (.ireturn, 1) := by decide +kernel
theorem d_FL_hearFenced_0 : decode b_FL_hearFenced 0 = .ok (.aload_n 1, 1) := by decide +kernel
theorem d_FL_hearFenced_1 : decode b_FL_hearFenced 1 = .ok (.aload_n 2, 1) := by decide +kernel
theorem d_FL_hearFenced_2 : decode b_FL_hearFenced 2 = .ok (.getfield 228, 3) := by decide +kernel
theorem d_FL_hearFenced_5 : decode b_FL_hearFenced 5 = .ok (.invokevirtual 270, 3) := by decide +kernel
theorem d_FL_hearFenced_8 : decode b_FL_hearFenced 8 = .ok (.aload_n 1, 1) := by decide +kernel
theorem d_FL_hearFenced_9 : decode b_FL_hearFenced 9 = .ok (.aload_n 1, 1) := by decide +kernel
theorem d_FL_hearFenced_10 : decode b_FL_hearFenced 10 = .ok (.getfield 273, 3) := by decide +kernel
theorem d_FL_hearFenced_13 : decode b_FL_hearFenced 13 = .ok (.aload_n 2, 1) := by decide +kernel
theorem d_FL_hearFenced_14 : decode b_FL_hearFenced 14 = .ok (.getfield 246, 3) := by decide +kernel
theorem d_FL_hearFenced_17 : decode b_FL_hearFenced 17 = .ok (.invokestatic 195, 3) := by decide +kernel
theorem d_FL_hearFenced_20 : decode b_FL_hearFenced 20 = .ok (.putfield 273, 3) := by decide +kernel
theorem d_FL_hearFenced_23 : decode b_FL_hearFenced 23 = .ok (.aload_n 0, 1) := by decide +kernel
theorem d_FL_hearFenced_24 : decode b_FL_hearFenced 24 = .ok (.aload_n 1, 1) := by decide +kernel
theorem d_FL_hearFenced_25 : decode b_FL_hearFenced 25 = .ok (.getfield 213, 3) := by decide +kernel
theorem d_FL_hearFenced_28 : decode b_FL_hearFenced 28 = .ok (.invokevirtual 276, 3) := by decide +kernel
theorem d_FL_hearFenced_31 : decode b_FL_hearFenced 31 = .ok (.ifCond .eq 14, 3) := by decide +kernel
theorem d_FL_hearFenced_34 : decode b_FL_hearFenced 34 = .ok (.aload_n 0, 1) := by decide +kernel
theorem d_FL_hearFenced_35 : decode b_FL_hearFenced 35 = .ok (.aload_n 1, 1) := by decide +kernel
theorem d_FL_hearFenced_36 : decode b_FL_hearFenced 36 = .ok (.aload_n 1, 1) := by decide +kernel
theorem d_FL_hearFenced_37 : decode b_FL_hearFenced 37 = .ok (.getfield 273, 3) := by decide +kernel
theorem d_FL_hearFenced_40 : decode b_FL_hearFenced 40 = .ok (.iconst 1, 1) := by decide +kernel
theorem d_FL_hearFenced_41 : decode b_FL_hearFenced 41 = .ok (.iadd, 1) := by decide +kernel
theorem d_FL_hearFenced_42 : decode b_FL_hearFenced 42 = .ok (.invokevirtual 279, 3) := by decide +kernel
theorem d_FL_hearFenced_45 : decode b_FL_hearFenced 45 = .ok (.return_, 1) := by decide +kernel
theorem d_FL_reachRecoverer_0 : decode b_FL_reachRecoverer 0 = .ok (.aload_n 0, 1) := by decide +kernel
theorem d_FL_reachRecoverer_1 : decode b_FL_reachRecoverer 1 = .ok (.getfield 46, 3) := by decide +kernel
theorem d_FL_reachRecoverer_4 : decode b_FL_reachRecoverer 4 = .ok (.aload_n 1, 1) := by decide +kernel
theorem d_FL_reachRecoverer_5 : decode b_FL_reachRecoverer 5 = .ok (.getfield 137, 3) := by decide +kernel
theorem d_FL_reachRecoverer_8 : decode b_FL_reachRecoverer 8 = .ok (.iconst 1, 1) := by decide +kernel
theorem d_FL_reachRecoverer_9 : decode b_FL_reachRecoverer 9 = .ok (.isub, 1) := by decide +kernel
theorem d_FL_reachRecoverer_10 : decode b_FL_reachRecoverer 10 = .ok (.aaload, 1) := by decide +kernel
theorem d_FL_reachRecoverer_11 : decode b_FL_reachRecoverer 11 = .ok (.astore_n 2, 1) := by decide +kernel
theorem d_FL_reachRecoverer_12 : decode b_FL_reachRecoverer 12 = .ok (.aload_n 1, 1) := by decide +kernel
theorem d_FL_reachRecoverer_13 : decode b_FL_reachRecoverer 13 = .ok (.getfield 252, 3) := by decide +kernel
theorem d_FL_reachRecoverer_16 : decode b_FL_reachRecoverer 16 = .ok (.aload_n 2, 1) := by decide +kernel
theorem d_FL_reachRecoverer_17 : decode b_FL_reachRecoverer 17 = .ok (.getfield 216, 3) := by decide +kernel
theorem d_FL_reachRecoverer_20 : decode b_FL_reachRecoverer 20 = .ok (.if_icmp .eq 4, 3) := by decide +kernel
theorem d_FL_reachRecoverer_23 : decode b_FL_reachRecoverer 23 = .ok (.return_, 1) := by decide +kernel
theorem d_FL_reachRecoverer_24 : decode b_FL_reachRecoverer 24 = .ok (.aload_n 1, 1) := by decide +kernel
theorem d_FL_reachRecoverer_25 : decode b_FL_reachRecoverer 25 = .ok (.getfield 147, 3) := by decide +kernel
theorem d_FL_reachRecoverer_28 : decode b_FL_reachRecoverer 28 = .ok (.iconst 5, 1) := by decide +kernel
theorem d_FL_reachRecoverer_29 : decode b_FL_reachRecoverer 29 = .ok (.if_icmp .ne 20, 3) := by decide +kernel
theorem d_FL_reachRecoverer_32 : decode b_FL_reachRecoverer 32 = .ok (.aload_n 2, 1) := by decide +kernel
theorem d_FL_reachRecoverer_33 : decode b_FL_reachRecoverer 33 = .ok (.getfield 107, 3) := by decide +kernel
theorem d_FL_reachRecoverer_36 : decode b_FL_reachRecoverer 36 = .ok (.iconst 1, 1) := by decide +kernel
theorem d_FL_reachRecoverer_37 : decode b_FL_reachRecoverer 37 = .ok (.if_icmp .ne 12, 3) := by decide +kernel
theorem d_FL_reachRecoverer_40 : decode b_FL_reachRecoverer 40 = .ok (.aload_n 0, 1) := by decide +kernel
theorem d_FL_reachRecoverer_41 : decode b_FL_reachRecoverer 41 = .ok (.aload_n 2, 1) := by decide +kernel
theorem d_FL_reachRecoverer_42 : decode b_FL_reachRecoverer 42 = .ok (.aload_n 1, 1) := by decide +kernel
theorem d_FL_reachRecoverer_43 : decode b_FL_reachRecoverer 43 = .ok (.invokevirtual 253, 3) := by decide +kernel
theorem d_FL_reachRecoverer_46 : decode b_FL_reachRecoverer 46 = .ok (.goto 97, 3) := by decide +kernel
theorem d_FL_reachRecoverer_49 : decode b_FL_reachRecoverer 49 = .ok (.aload_n 1, 1) := by decide +kernel
theorem d_FL_reachRecoverer_50 : decode b_FL_reachRecoverer 50 = .ok (.getfield 147, 3) := by decide +kernel
theorem d_FL_reachRecoverer_53 : decode b_FL_reachRecoverer 53 = .ok (.bipush 6, 2) := by decide +kernel
theorem d_FL_reachRecoverer_55 : decode b_FL_reachRecoverer 55 = .ok (.if_icmp .ne 32, 3) := by decide +kernel
theorem d_FL_reachRecoverer_58 : decode b_FL_reachRecoverer 58 = .ok (.aload_n 2, 1) := by decide +kernel
theorem d_FL_reachRecoverer_59 : decode b_FL_reachRecoverer 59 = .ok (.iconst 2, 1) := by decide +kernel
theorem d_FL_reachRecoverer_60 : decode b_FL_reachRecoverer 60 = .ok (.aload_n 1, 1) := by decide +kernel
theorem d_FL_reachRecoverer_61 : decode b_FL_reachRecoverer 61 = .ok (.getfield 245, 3) := by decide +kernel
theorem d_FL_reachRecoverer_64 : decode b_FL_reachRecoverer 64 = .ok (.invokevirtual 257, 3) := by decide +kernel
theorem d_FL_reachRecoverer_67 : decode b_FL_reachRecoverer 67 = .ok (.ifCond .eq 20, 3) := by decide +kernel
theorem d_FL_reachRecoverer_70 : decode b_FL_reachRecoverer 70 = .ok (.aload_n 2, 1) := by decide +kernel
theorem d_FL_reachRecoverer_71 : decode b_FL_reachRecoverer 71 = .ok (.aload_n 1, 1) := by decide +kernel
theorem d_FL_reachRecoverer_72 : decode b_FL_reachRecoverer 72 = .ok (.getfield 246, 3) := by decide +kernel
theorem d_FL_reachRecoverer_75 : decode b_FL_reachRecoverer 75 = .ok (.invokevirtual 261, 3) := by decide +kernel
theorem d_FL_reachRecoverer_78 : decode b_FL_reachRecoverer 78 = .ok (.aload_n 0, 1) := by decide +kernel
theorem d_FL_reachRecoverer_79 : decode b_FL_reachRecoverer 79 = .ok (.aload_n 2, 1) := by decide +kernel
theorem d_FL_reachRecoverer_80 : decode b_FL_reachRecoverer 80 = .ok (.invokevirtual 111, 3) := by decide +kernel
theorem d_FL_reachRecoverer_83 : decode b_FL_reachRecoverer 83 = .ok (.pop, 1) := by decide +kernel
theorem d_FL_reachRecoverer_84 : decode b_FL_reachRecoverer 84 = .ok (.goto 59, 3) := by decide +kernel
theorem d_FL_reachRecoverer_87 : decode b_FL_reachRecoverer 87 = .ok (.aload_n 1, 1) := by decide +kernel
theorem d_FL_reachRecoverer_88 : decode b_FL_reachRecoverer 88 = .ok (.getfield 147, 3) := by decide +kernel
theorem d_FL_reachRecoverer_91 : decode b_FL_reachRecoverer 91 = .ok (.bipush 7, 2) := by decide +kernel
theorem d_FL_reachRecoverer_93 : decode b_FL_reachRecoverer 93 = .ok (.if_icmp .ne 24, 3) := by decide +kernel
theorem d_FL_reachRecoverer_96 : decode b_FL_reachRecoverer 96 = .ok (.aload_n 2, 1) := by decide +kernel
theorem d_FL_reachRecoverer_97 : decode b_FL_reachRecoverer 97 = .ok (.iconst 2, 1) := by decide +kernel
theorem d_FL_reachRecoverer_98 : decode b_FL_reachRecoverer 98 = .ok (.aload_n 1, 1) := by decide +kernel
theorem d_FL_reachRecoverer_99 : decode b_FL_reachRecoverer 99 = .ok (.getfield 245, 3) := by decide +kernel
theorem d_FL_reachRecoverer_102 : decode b_FL_reachRecoverer 102 = .ok (.invokevirtual 257, 3) := by decide +kernel
theorem d_FL_reachRecoverer_105 : decode b_FL_reachRecoverer 105 = .ok (.ifCond .eq 12, 3) := by decide +kernel
theorem d_FL_reachRecoverer_108 : decode b_FL_reachRecoverer 108 = .ok (.aload_n 0, 1) := by decide +kernel
theorem d_FL_reachRecoverer_109 : decode b_FL_reachRecoverer 109 = .ok (.aload_n 2, 1) := by decide +kernel
theorem d_FL_reachRecoverer_110 : decode b_FL_reachRecoverer 110 = .ok (.aload_n 1, 1) := by decide +kernel
theorem d_FL_reachRecoverer_111 : decode b_FL_reachRecoverer 111 = .ok (.invokevirtual 264, 3) := by decide +kernel
theorem d_FL_reachRecoverer_114 : decode b_FL_reachRecoverer 114 = .ok (.goto 29, 3) := by decide +kernel
theorem d_FL_reachRecoverer_117 : decode b_FL_reachRecoverer 117 = .ok (.aload_n 1, 1) := by decide +kernel
theorem d_FL_reachRecoverer_118 : decode b_FL_reachRecoverer 118 = .ok (.getfield 147, 3) := by decide +kernel
theorem d_FL_reachRecoverer_121 : decode b_FL_reachRecoverer 121 = .ok (.iconst 3, 1) := by decide +kernel
theorem d_FL_reachRecoverer_122 : decode b_FL_reachRecoverer 122 = .ok (.if_icmp .ne 21, 3) := by decide +kernel
theorem d_FL_reachRecoverer_125 : decode b_FL_reachRecoverer 125 = .ok (.aload_n 2, 1) := by decide +kernel
theorem d_FL_reachRecoverer_126 : decode b_FL_reachRecoverer 126 = .ok (.iconst 3, 1) := by decide +kernel
theorem d_FL_reachRecoverer_127 : decode b_FL_reachRecoverer 127 = .ok (.aload_n 1, 1) := by decide +kernel
theorem d_FL_reachRecoverer_128 : decode b_FL_reachRecoverer 128 = .ok (.getfield 245, 3) := by decide +kernel
theorem d_FL_reachRecoverer_131 : decode b_FL_reachRecoverer 131 = .ok (.invokevirtual 257, 3) := by decide +kernel
theorem d_FL_reachRecoverer_134 : decode b_FL_reachRecoverer 134 = .ok (.ifCond .eq 9, 3) := by decide +kernel
theorem d_FL_reachRecoverer_137 : decode b_FL_reachRecoverer 137 = .ok (.aload_n 0, 1) := by decide +kernel
theorem d_FL_reachRecoverer_138 : decode b_FL_reachRecoverer 138 = .ok (.aload_n 2, 1) := by decide +kernel
theorem d_FL_reachRecoverer_139 : decode b_FL_reachRecoverer 139 = .ok (.aload_n 1, 1) := by decide +kernel
theorem d_FL_reachRecoverer_140 : decode b_FL_reachRecoverer 140 = .ok (.invokevirtual 267, 3) := by decide +kernel
theorem d_FL_reachRecoverer_143 : decode b_FL_reachRecoverer 143 = .ok (.return_, 1) := by decide +kernel
theorem d_FL_sendAnswer_0 : decode b_FL_sendAnswer 0 = .ok (.aload_n 0, 1) := by decide +kernel
theorem d_FL_sendAnswer_1 : decode b_FL_sendAnswer 1 = .ok (.getfield 33, 3) := by decide +kernel
theorem d_FL_sendAnswer_4 : decode b_FL_sendAnswer 4 = .ok (.iload_n 2, 1) := by decide +kernel
theorem d_FL_sendAnswer_5 : decode b_FL_sendAnswer 5 = .ok (.aload_n 1, 1) := by decide +kernel
theorem d_FL_sendAnswer_6 : decode b_FL_sendAnswer 6 = .ok (.getfield 137, 3) := by decide +kernel
theorem d_FL_sendAnswer_9 : decode b_FL_sendAnswer 9 = .ok (.aload_n 1, 1) := by decide +kernel
theorem d_FL_sendAnswer_10 : decode b_FL_sendAnswer 10 = .ok (.getfield 228, 3) := by decide +kernel
theorem d_FL_sendAnswer_13 : decode b_FL_sendAnswer 13 = .ok (.aload_n 1, 1) := by decide +kernel
theorem d_FL_sendAnswer_14 : decode b_FL_sendAnswer 14 = .ok (.getfield 245, 3) := by decide +kernel
theorem d_FL_sendAnswer_17 : decode b_FL_sendAnswer 17 = .ok (.iload_n 3, 1) := by decide +kernel
theorem d_FL_sendAnswer_18 : decode b_FL_sendAnswer 18 = .ok (.aload_n 1, 1) := by decide +kernel
theorem d_FL_sendAnswer_19 : decode b_FL_sendAnswer 19 = .ok (.getfield 252, 3) := by decide +kernel
theorem d_FL_sendAnswer_22 : decode b_FL_sendAnswer 22 = .ok (.iconst 0, 1) := by decide +kernel
theorem d_FL_sendAnswer_23 : decode b_FL_sendAnswer 23 = .ok (.invokevirtual 209, 3) := by decide +kernel
theorem d_FL_sendAnswer_26 : decode b_FL_sendAnswer 26 = .ok (.return_, 1) := by decide +kernel
theorem d_FL_reachStoreWithAdd_0 : decode b_FL_reachStoreWithAdd 0 = .ok (.aload_n 2, 1) := by decide +kernel
theorem d_FL_reachStoreWithAdd_1 : decode b_FL_reachStoreWithAdd 1 = .ok (.getfield 137, 3) := by decide +kernel
theorem d_FL_reachStoreWithAdd_4 : decode b_FL_reachStoreWithAdd 4 = .ok (.ifCond .ne 18, 3) := by decide +kernel
theorem d_FL_reachStoreWithAdd_7 : decode b_FL_reachStoreWithAdd 7 = .ok (.aload_n 1, 1) := by decide +kernel
theorem d_FL_reachStoreWithAdd_8 : decode b_FL_reachStoreWithAdd 8 = .ok (.getfield 235, 3) := by decide +kernel
theorem d_FL_reachStoreWithAdd_11 : decode b_FL_reachStoreWithAdd 11 = .ok (.ifCond .eq 11, 3) := by decide +kernel
theorem d_FL_reachStoreWithAdd_14 : decode b_FL_reachStoreWithAdd 14 = .ok (.aload_n 0, 1) := by decide +kernel
theorem d_FL_reachStoreWithAdd_15 : decode b_FL_reachStoreWithAdd 15 = .ok (.aload_n 2, 1) := by decide +kernel
theorem d_FL_reachStoreWithAdd_16 : decode b_FL_reachStoreWithAdd 16 = .ok (.iconst 4, 1) := by decide +kernel
theorem d_FL_reachStoreWithAdd_17 : decode b_FL_reachStoreWithAdd 17 = .ok (.iconst 0, 1) := by decide +kernel
theorem d_FL_reachStoreWithAdd_18 : decode b_FL_reachStoreWithAdd 18 = .ok (.invokevirtual 241, 3) := by decide +kernel
theorem d_FL_reachStoreWithAdd_21 : decode b_FL_reachStoreWithAdd 21 = .ok (.return_, 1) := by decide +kernel
theorem d_FL_reachStoreWithAdd_22 : decode b_FL_reachStoreWithAdd 22 = .ok (.aload_n 1, 1) := by decide +kernel
theorem d_FL_reachStoreWithAdd_23 : decode b_FL_reachStoreWithAdd 23 = .ok (.aload_n 2, 1) := by decide +kernel
theorem d_FL_reachStoreWithAdd_24 : decode b_FL_reachStoreWithAdd 24 = .ok (.getfield 245, 3) := by decide +kernel
theorem d_FL_reachStoreWithAdd_27 : decode b_FL_reachStoreWithAdd 27 = .ok (.aload_n 2, 1) := by decide +kernel
theorem d_FL_reachStoreWithAdd_28 : decode b_FL_reachStoreWithAdd 28 = .ok (.getfield 246, 3) := by decide +kernel
theorem d_FL_reachStoreWithAdd_31 : decode b_FL_reachStoreWithAdd 31 = .ok (.aload_n 2, 1) := by decide +kernel
theorem d_FL_reachStoreWithAdd_32 : decode b_FL_reachStoreWithAdd 32 = .ok (.getfield 247, 3) := by decide +kernel
theorem d_FL_reachStoreWithAdd_35 : decode b_FL_reachStoreWithAdd 35 = .ok (.invokevirtual 248, 3) := by decide +kernel
theorem d_FL_reachStoreWithAdd_38 : decode b_FL_reachStoreWithAdd 38 = .ok (.aload_n 0, 1) := by decide +kernel
theorem d_FL_reachStoreWithAdd_39 : decode b_FL_reachStoreWithAdd 39 = .ok (.aload_n 2, 1) := by decide +kernel
theorem d_FL_reachStoreWithAdd_40 : decode b_FL_reachStoreWithAdd 40 = .ok (.iconst 3, 1) := by decide +kernel
theorem d_FL_reachStoreWithAdd_41 : decode b_FL_reachStoreWithAdd 41 = .ok (.iconst 0, 1) := by decide +kernel
theorem d_FL_reachStoreWithAdd_42 : decode b_FL_reachStoreWithAdd 42 = .ok (.invokevirtual 241, 3) := by decide +kernel
theorem d_FL_reachStoreWithAdd_45 : decode b_FL_reachStoreWithAdd 45 = .ok (.return_, 1) := by decide +kernel
theorem d_FL_reachStore_0 : decode b_FL_reachStore 0 = .ok (.aload_n 0, 1) := by decide +kernel
theorem d_FL_reachStore_1 : decode b_FL_reachStore 1 = .ok (.getfield 25, 3) := by decide +kernel
theorem d_FL_reachStore_4 : decode b_FL_reachStore 4 = .ok (.aload_n 1, 1) := by decide +kernel
theorem d_FL_reachStore_5 : decode b_FL_reachStore 5 = .ok (.getfield 228, 3) := by decide +kernel
theorem d_FL_reachStore_8 : decode b_FL_reachStore 8 = .ok (.aaload, 1) := by decide +kernel
theorem d_FL_reachStore_9 : decode b_FL_reachStore 9 = .ok (.astore_n 2, 1) := by decide +kernel
theorem d_FL_reachStore_10 : decode b_FL_reachStore 10 = .ok (.aload_n 2, 1) := by decide +kernel
theorem d_FL_reachStore_11 : decode b_FL_reachStore 11 = .ok (.getfield 161, 3) := by decide +kernel
theorem d_FL_reachStore_14 : decode b_FL_reachStore 14 = .ok (.ifCond .ne 4, 3) := by decide +kernel
theorem d_FL_reachStore_17 : decode b_FL_reachStore 17 = .ok (.return_, 1) := by decide +kernel
theorem d_FL_reachStore_18 : decode b_FL_reachStore 18 = .ok (.aload_n 1, 1) := by decide +kernel
theorem d_FL_reachStore_19 : decode b_FL_reachStore 19 = .ok (.getfield 147, 3) := by decide +kernel
theorem d_FL_reachStore_22 : decode b_FL_reachStore 22 = .ok (.ifCond .ne 10, 3) := by decide +kernel
theorem d_FL_reachStore_25 : decode b_FL_reachStore 25 = .ok (.aload_n 0, 1) := by decide +kernel
theorem d_FL_reachStore_26 : decode b_FL_reachStore 26 = .ok (.aload_n 2, 1) := by decide +kernel
theorem d_FL_reachStore_27 : decode b_FL_reachStore 27 = .ok (.aload_n 1, 1) := by decide +kernel
theorem d_FL_reachStore_28 : decode b_FL_reachStore 28 = .ok (.invokevirtual 231, 3) := by decide +kernel
theorem d_FL_reachStore_31 : decode b_FL_reachStore 31 = .ok (.return_, 1) := by decide +kernel
theorem d_FL_reachStore_32 : decode b_FL_reachStore 32 = .ok (.aload_n 2, 1) := by decide +kernel
theorem d_FL_reachStore_33 : decode b_FL_reachStore 33 = .ok (.iconst 1, 1) := by decide +kernel
theorem d_FL_reachStore_34 : decode b_FL_reachStore 34 = .ok (.putfield 235, 3) := by decide +kernel
theorem d_FL_reachStore_37 : decode b_FL_reachStore 37 = .ok (.aload_n 1, 1) := by decide +kernel
theorem d_FL_reachStore_38 : decode b_FL_reachStore 38 = .ok (.getfield 147, 3) := by decide +kernel
theorem d_FL_reachStore_41 : decode b_FL_reachStore 41 = .ok (.iconst 1, 1) := by decide +kernel
theorem d_FL_reachStore_42 : decode b_FL_reachStore 42 = .ok (.if_icmp .ne 16, 3) := by decide +kernel
theorem d_FL_reachStore_45 : decode b_FL_reachStore 45 = .ok (.aload_n 0, 1) := by decide +kernel
theorem d_FL_reachStore_46 : decode b_FL_reachStore 46 = .ok (.aload_n 1, 1) := by decide +kernel
theorem d_FL_reachStore_47 : decode b_FL_reachStore 47 = .ok (.iconst 5, 1) := by decide +kernel
theorem d_FL_reachStore_48 : decode b_FL_reachStore 48 = .ok (.aload_n 2, 1) := by decide +kernel
theorem d_FL_reachStore_49 : decode b_FL_reachStore 49 = .ok (.getfield 238, 3) := by decide +kernel
theorem d_FL_reachStore_52 : decode b_FL_reachStore 52 = .ok (.invokevirtual 241, 3) := by decide +kernel
theorem d_FL_reachStore_55 : decode b_FL_reachStore 55 = .ok (.goto 42, 3) := by decide +kernel
theorem d_FL_reachStore_58 : decode b_FL_reachStore 58 = .ok (.aload_n 2, 1) := by decide +kernel
theorem d_FL_reachStore_59 : decode b_FL_reachStore 59 = .ok (.getfield 169, 3) := by decide +kernel
theorem d_FL_reachStore_62 : decode b_FL_reachStore 62 = .ok (.aload_n 1, 1) := by decide +kernel
theorem d_FL_reachStore_63 : decode b_FL_reachStore 63 = .ok (.getfield 245, 3) := by decide +kernel
theorem d_FL_reachStore_66 : decode b_FL_reachStore 66 = .ok (.baload, 1) := by decide +kernel
theorem d_FL_reachStore_67 : decode b_FL_reachStore 67 = .ok (.ifCond .eq 22, 3) := by decide +kernel
theorem d_FL_reachStore_70 : decode b_FL_reachStore 70 = .ok (.aload_n 0, 1) := by decide +kernel
theorem d_FL_reachStore_71 : decode b_FL_reachStore 71 = .ok (.aload_n 1, 1) := by decide +kernel
theorem d_FL_reachStore_72 : decode b_FL_reachStore 72 = .ok (.bipush 6, 2) := by decide +kernel
theorem d_FL_reachStore_74 : decode b_FL_reachStore 74 = .ok (.aload_n 2, 1) := by decide +kernel
theorem d_FL_reachStore_75 : decode b_FL_reachStore 75 = .ok (.getfield 185, 3) := by decide +kernel
theorem d_FL_reachStore_78 : decode b_FL_reachStore 78 = .ok (.aload_n 1, 1) := by decide +kernel
theorem d_FL_reachStore_79 : decode b_FL_reachStore 79 = .ok (.getfield 245, 3) := by decide +kernel
theorem d_FL_reachStore_82 : decode b_FL_reachStore 82 = .ok (.iaload, 1) := by decide +kernel
theorem d_FL_reachStore_83 : decode b_FL_reachStore 83 = .ok (.invokevirtual 241, 3) := by decide +kernel
theorem d_FL_reachStore_86 : decode b_FL_reachStore 86 = .ok (.goto 11, 3) := by decide +kernel
theorem d_FL_reachStore_89 : decode b_FL_reachStore 89 = .ok (.aload_n 0, 1) := by decide +kernel
theorem d_FL_reachStore_90 : decode b_FL_reachStore 90 = .ok (.aload_n 1, 1) := by decide +kernel
theorem d_FL_reachStore_91 : decode b_FL_reachStore 91 = .ok (.bipush 7, 2) := by decide +kernel
theorem d_FL_reachStore_93 : decode b_FL_reachStore 93 = .ok (.iconst 0, 1) := by decide +kernel
theorem d_FL_reachStore_94 : decode b_FL_reachStore 94 = .ok (.invokevirtual 241, 3) := by decide +kernel
theorem d_FL_reachStore_97 : decode b_FL_reachStore 97 = .ok (.return_, 1) := by decide +kernel
theorem d_FL_deliver_0 : decode b_FL_deliver 0 = .ok (.aload_n 0, 1) := by decide +kernel
theorem d_FL_deliver_1 : decode b_FL_deliver 1 = .ok (.getfield 33, 3) := by decide +kernel
theorem d_FL_deliver_4 : decode b_FL_deliver 4 = .ok (.iload_n 1, 1) := by decide +kernel
theorem d_FL_deliver_5 : decode b_FL_deliver 5 = .ok (.invokevirtual 121, 3) := by decide +kernel
theorem d_FL_deliver_8 : decode b_FL_deliver 8 = .ok (.ifCond .ne 5, 3) := by decide +kernel
theorem d_FL_deliver_11 : decode b_FL_deliver 11 = .ok (.iconst (-1), 1) := by decide +kernel
theorem d_FL_deliver_12 : decode b_FL_deliver 12 = .ok (.ireturn, 1) := by decide +kernel
theorem d_FL_deliver_13 : decode b_FL_deliver 13 = .ok (.aload_n 0, 1) := by decide +kernel
theorem d_FL_deliver_14 : decode b_FL_deliver 14 = .ok (.getfield 33, 3) := by decide +kernel
theorem d_FL_deliver_17 : decode b_FL_deliver 17 = .ok (.iload_n 1, 1) := by decide +kernel
theorem d_FL_deliver_18 : decode b_FL_deliver 18 = .ok (.invokevirtual 124, 3) := by decide +kernel
theorem d_FL_deliver_21 : decode b_FL_deliver 21 = .ok (.astore_n 2, 1) := by decide +kernel
theorem d_FL_deliver_22 : decode b_FL_deliver 22 = .ok (.aload_n 2, 1) := by decide +kernel
theorem d_FL_deliver_23 : decode b_FL_deliver 23 = .ok (.invokevirtual 128, 3) := by decide +kernel
theorem d_FL_deliver_26 : decode b_FL_deliver 26 = .ok (.ifCond .eq 11, 3) := by decide +kernel
theorem d_FL_deliver_29 : decode b_FL_deliver 29 = .ok (.aload_n 0, 1) := by decide +kernel
theorem d_FL_deliver_30 : decode b_FL_deliver 30 = .ok (.aload_n 2, 1) := by decide +kernel
theorem d_FL_deliver_31 : decode b_FL_deliver 31 = .ok (.invokevirtual 133, 3) := by decide +kernel
theorem d_FL_deliver_34 : decode b_FL_deliver 34 = .ok (.goto 30, 3) := by decide +kernel
theorem d_FL_deliver_37 : decode b_FL_deliver 37 = .ok (.aload_n 2, 1) := by decide +kernel
theorem d_FL_deliver_38 : decode b_FL_deliver 38 = .ok (.getfield 137, 3) := by decide +kernel
theorem d_FL_deliver_41 : decode b_FL_deliver 41 = .ok (.ifCond .ne 18, 3) := by decide +kernel
theorem d_FL_deliver_44 : decode b_FL_deliver 44 = .ok (.aload_n 0, 1) := by decide +kernel
theorem d_FL_deliver_45 : decode b_FL_deliver 45 = .ok (.getfield 40, 3) := by decide +kernel
theorem d_FL_deliver_48 : decode b_FL_deliver 48 = .ok (.aload_n 2, 1) := by decide +kernel
theorem d_FL_deliver_49 : decode b_FL_deliver 49 = .ok (.aload_n 0, 1) := by decide +kernel
theorem d_FL_deliver_50 : decode b_FL_deliver 50 = .ok (.getfield 20, 3) := by decide +kernel
theorem d_FL_deliver_53 : decode b_FL_deliver 53 = .ok (.invokevirtual 140, 3) := by decide +kernel
theorem d_FL_deliver_56 : decode b_FL_deliver 56 = .ok (.goto 8, 3) := by decide +kernel
theorem d_FL_deliver_59 : decode b_FL_deliver 59 = .ok (.aload_n 0, 1) := by decide +kernel
theorem d_FL_deliver_60 : decode b_FL_deliver 60 = .ok (.aload_n 2, 1) := by decide +kernel
theorem d_FL_deliver_61 : decode b_FL_deliver 61 = .ok (.invokevirtual 144, 3) := by decide +kernel
theorem d_FL_deliver_64 : decode b_FL_deliver 64 = .ok (.aload_n 2, 1) := by decide +kernel
theorem d_FL_deliver_65 : decode b_FL_deliver 65 = .ok (.getfield 147, 3) := by decide +kernel
theorem d_FL_deliver_68 : decode b_FL_deliver 68 = .ok (.ireturn, 1) := by decide +kernel
theorem d_FL_lose_0 : decode b_FL_lose 0 = .ok (.aload_n 0, 1) := by decide +kernel
theorem d_FL_lose_1 : decode b_FL_lose 1 = .ok (.getfield 33, 3) := by decide +kernel
theorem d_FL_lose_4 : decode b_FL_lose 4 = .ok (.iload_n 1, 1) := by decide +kernel
theorem d_FL_lose_5 : decode b_FL_lose 5 = .ok (.invokevirtual 121, 3) := by decide +kernel
theorem d_FL_lose_8 : decode b_FL_lose 8 = .ok (.ifCond .ne 5, 3) := by decide +kernel
theorem d_FL_lose_11 : decode b_FL_lose 11 = .ok (.iconst 0, 1) := by decide +kernel
theorem d_FL_lose_12 : decode b_FL_lose 12 = .ok (.ireturn, 1) := by decide +kernel
theorem d_FL_lose_13 : decode b_FL_lose 13 = .ok (.aload_n 0, 1) := by decide +kernel
theorem d_FL_lose_14 : decode b_FL_lose 14 = .ok (.getfield 33, 3) := by decide +kernel
theorem d_FL_lose_17 : decode b_FL_lose 17 = .ok (.iload_n 1, 1) := by decide +kernel
theorem d_FL_lose_18 : decode b_FL_lose 18 = .ok (.invokevirtual 124, 3) := by decide +kernel
theorem d_FL_lose_21 : decode b_FL_lose 21 = .ok (.pop, 1) := by decide +kernel
theorem d_FL_lose_22 : decode b_FL_lose 22 = .ok (.iconst 1, 1) := by decide +kernel
theorem d_FL_lose_23 : decode b_FL_lose 23 = .ok (.ireturn, 1) := by decide +kernel
theorem d_FL_flight_0 : decode b_FL_flight 0 = .ok (.aload_n 0, 1) := by decide +kernel
theorem d_FL_flight_1 : decode b_FL_flight 1 = .ok (.getfield 33, 3) := by decide +kernel
theorem d_FL_flight_4 : decode b_FL_flight 4 = .ok (.getfield 150, 3) := by decide +kernel
theorem d_FL_flight_7 : decode b_FL_flight 7 = .ok (.ireturn, 1) := by decide +kernel
theorem d_FL_message_0 : decode b_FL_message 0 = .ok (.aload_n 0, 1) := by decide +kernel
theorem d_FL_message_1 : decode b_FL_message 1 = .ok (.getfield 33, 3) := by decide +kernel
theorem d_FL_message_4 : decode b_FL_message 4 = .ok (.iload_n 1, 1) := by decide +kernel
theorem d_FL_message_5 : decode b_FL_message 5 = .ok (.invokevirtual 121, 3) := by decide +kernel
theorem d_FL_message_8 : decode b_FL_message 8 = .ok (.ifCond .ne 5, 3) := by decide +kernel
theorem d_FL_message_11 : decode b_FL_message 11 = .ok (.iconst (-1), 1) := by decide +kernel
theorem d_FL_message_12 : decode b_FL_message 12 = .ok (.ireturn, 1) := by decide +kernel
end
section
theorem d_FL_message_13 : decode b_FL_message 13 = .ok (.aload_n 0, 1) := by decide +kernel
theorem d_FL_message_14 : decode b_FL_message 14 = .ok (.getfield 33, 3) := by decide +kernel
theorem d_FL_message_17 : decode b_FL_message 17 = .ok (.getfield 153, 3) := by decide +kernel
theorem d_FL_message_20 : decode b_FL_message 20 = .ok (.iload_n 1, 1) := by decide +kernel
theorem d_FL_message_21 : decode b_FL_message 21 = .ok (.aaload, 1) := by decide +kernel
theorem d_FL_message_22 : decode b_FL_message 22 = .ok (.iload_n 2, 1) := by decide +kernel
theorem d_FL_message_23 : decode b_FL_message 23 = .ok (.invokevirtual 157, 3) := by decide +kernel
theorem d_FL_message_26 : decode b_FL_message 26 = .ok (.ireturn, 1) := by decide +kernel
theorem d_FL_isStore_0 : decode b_FL_isStore 0 = .ok (.iload_n 1, 1) := by decide +kernel
theorem d_FL_isStore_1 : decode b_FL_isStore 1 = .ok (.ifCond .lt 15, 3) := by decide +kernel
theorem d_FL_isStore_4 : decode b_FL_isStore 4 = .ok (.iload_n 1, 1) := by decide +kernel
theorem d_FL_isStore_5 : decode b_FL_isStore 5 = .ok (.aload_n 0, 1) := by decide +kernel
theorem d_FL_isStore_6 : decode b_FL_isStore 6 = .ok (.getfield 13, 3) := by decide +kernel
theorem d_FL_isStore_9 : decode b_FL_isStore 9 = .ok (.if_icmp .ge 7, 3) := by decide +kernel
theorem d_FL_isStore_12 : decode b_FL_isStore 12 = .ok (.iconst 1, 1) := by decide +kernel
theorem d_FL_isStore_13 : decode b_FL_isStore 13 = .ok (.goto 4, 3) := by decide +kernel
theorem d_FL_isStore_16 : decode b_FL_isStore 16 = .ok (.iconst 0, 1) := by decide +kernel
theorem d_FL_isStore_17 : decode b_FL_isStore 17 = .ok (.ireturn, 1) := by decide +kernel
theorem d_FL_power_0 : decode b_FL_power 0 = .ok (.aload_n 0, 1) := by decide +kernel
theorem d_FL_power_1 : decode b_FL_power 1 = .ok (.iload_n 1, 1) := by decide +kernel
theorem d_FL_power_2 : decode b_FL_power 2 = .ok (.invokevirtual 158, 3) := by decide +kernel
theorem d_FL_power_5 : decode b_FL_power 5 = .ok (.ifCond .eq 16, 3) := by decide +kernel
theorem d_FL_power_8 : decode b_FL_power 8 = .ok (.aload_n 0, 1) := by decide +kernel
theorem d_FL_power_9 : decode b_FL_power 9 = .ok (.getfield 25, 3) := by decide +kernel
theorem d_FL_power_12 : decode b_FL_power 12 = .ok (.iload_n 1, 1) := by decide +kernel
theorem d_FL_power_13 : decode b_FL_power 13 = .ok (.aaload, 1) := by decide +kernel
theorem d_FL_power_14 : decode b_FL_power 14 = .ok (.getfield 161, 3) := by decide +kernel
theorem d_FL_power_17 : decode b_FL_power 17 = .ok (.iload_n 2, 1) := by decide +kernel
theorem d_FL_power_18 : decode b_FL_power 18 = .ok (.if_icmp .ne 5, 3) := by decide +kernel
theorem d_FL_power_21 : decode b_FL_power 21 = .ok (.iconst 0, 1) := by decide +kernel
theorem d_FL_power_22 : decode b_FL_power 22 = .ok (.ireturn, 1) := by decide +kernel
theorem d_FL_power_23 : decode b_FL_power 23 = .ok (.aload_n 0, 1) := by decide +kernel
theorem d_FL_power_24 : decode b_FL_power 24 = .ok (.getfield 25, 3) := by decide +kernel
theorem d_FL_power_27 : decode b_FL_power 27 = .ok (.iload_n 1, 1) := by decide +kernel
theorem d_FL_power_28 : decode b_FL_power 28 = .ok (.aaload, 1) := by decide +kernel
theorem d_FL_power_29 : decode b_FL_power 29 = .ok (.iload_n 2, 1) := by decide +kernel
theorem d_FL_power_30 : decode b_FL_power 30 = .ok (.putfield 161, 3) := by decide +kernel
theorem d_FL_power_33 : decode b_FL_power 33 = .ok (.iconst 1, 1) := by decide +kernel
theorem d_FL_power_34 : decode b_FL_power 34 = .ok (.ireturn, 1) := by decide +kernel
theorem d_FL_store_0 : decode b_FL_store 0 = .ok (.aload_n 0, 1) := by decide +kernel
theorem d_FL_store_1 : decode b_FL_store 1 = .ok (.iload_n 1, 1) := by decide +kernel
theorem d_FL_store_2 : decode b_FL_store 2 = .ok (.invokevirtual 158, 3) := by decide +kernel
theorem d_FL_store_5 : decode b_FL_store 5 = .ok (.ifCond .ne 5, 3) := by decide +kernel
theorem d_FL_store_8 : decode b_FL_store 8 = .ok (.iconst (-1), 1) := by decide +kernel
theorem d_FL_store_9 : decode b_FL_store 9 = .ok (.ireturn, 1) := by decide +kernel
theorem d_FL_store_10 : decode b_FL_store 10 = .ok (.aload_n 0, 1) := by decide +kernel
theorem d_FL_store_11 : decode b_FL_store 11 = .ok (.getfield 25, 3) := by decide +kernel
theorem d_FL_store_14 : decode b_FL_store 14 = .ok (.iload_n 1, 1) := by decide +kernel
theorem d_FL_store_15 : decode b_FL_store 15 = .ok (.aaload, 1) := by decide +kernel
theorem d_FL_store_16 : decode b_FL_store 16 = .ok (.iload_n 2, 1) := by decide +kernel
theorem d_FL_store_17 : decode b_FL_store 17 = .ok (.invokevirtual 165, 3) := by decide +kernel
theorem d_FL_store_20 : decode b_FL_store 20 = .ok (.ireturn, 1) := by decide +kernel
theorem d_FL_isEntry_0 : decode b_FL_isEntry 0 = .ok (.iload_n 0, 1) := by decide +kernel
theorem d_FL_isEntry_1 : decode b_FL_isEntry 1 = .ok (.ifCond .lt 13, 3) := by decide +kernel
theorem d_FL_isEntry_4 : decode b_FL_isEntry 4 = .ok (.iload_n 0, 1) := by decide +kernel
theorem d_FL_isEntry_5 : decode b_FL_isEntry 5 = .ok (.bipush 20, 2) := by decide +kernel
theorem d_FL_isEntry_7 : decode b_FL_isEntry 7 = .ok (.if_icmp .ge 7, 3) := by decide +kernel
theorem d_FL_isEntry_10 : decode b_FL_isEntry 10 = .ok (.iconst 1, 1) := by decide +kernel
theorem d_FL_isEntry_11 : decode b_FL_isEntry 11 = .ok (.goto 4, 3) := by decide +kernel
theorem d_FL_isEntry_14 : decode b_FL_isEntry 14 = .ok (.iconst 0, 1) := by decide +kernel
theorem d_FL_isEntry_15 : decode b_FL_isEntry 15 = .ok (.ireturn, 1) := by decide +kernel
theorem d_FL_has_0 : decode b_FL_has 0 = .ok (.aload_n 0, 1) := by decide +kernel
theorem d_FL_has_1 : decode b_FL_has 1 = .ok (.iload_n 1, 1) := by decide +kernel
theorem d_FL_has_2 : decode b_FL_has 2 = .ok (.invokevirtual 158, 3) := by decide +kernel
theorem d_FL_has_5 : decode b_FL_has 5 = .ok (.ifCond .eq 28, 3) := by decide +kernel
theorem d_FL_has_8 : decode b_FL_has 8 = .ok (.iload_n 2, 1) := by decide +kernel
theorem d_FL_has_9 : decode b_FL_has 9 = .ok (.invokestatic 166, 3) := by decide +kernel
theorem d_FL_has_12 : decode b_FL_has 12 = .ok (.ifCond .eq 21, 3) := by decide +kernel
theorem d_FL_has_15 : decode b_FL_has 15 = .ok (.aload_n 0, 1) := by decide +kernel
theorem d_FL_has_16 : decode b_FL_has 16 = .ok (.getfield 25, 3) := by decide +kernel
theorem d_FL_has_19 : decode b_FL_has 19 = .ok (.iload_n 1, 1) := by decide +kernel
theorem d_FL_has_20 : decode b_FL_has 20 = .ok (.aaload, 1) := by decide +kernel
theorem d_FL_has_21 : decode b_FL_has 21 = .ok (.getfield 169, 3) := by decide +kernel
theorem d_FL_has_24 : decode b_FL_has 24 = .ok (.iload_n 2, 1) := by decide +kernel
theorem d_FL_has_25 : decode b_FL_has 25 = .ok (.baload, 1) := by decide +kernel
theorem d_FL_has_26 : decode b_FL_has 26 = .ok (.ifCond .eq 7, 3) := by decide +kernel
theorem d_FL_has_29 : decode b_FL_has 29 = .ok (.iconst 1, 1) := by decide +kernel
theorem d_FL_has_30 : decode b_FL_has 30 = .ok (.goto 4, 3) := by decide +kernel
theorem d_FL_has_33 : decode b_FL_has 33 = .ok (.iconst 0, 1) := by decide +kernel
theorem d_FL_has_34 : decode b_FL_has 34 = .ok (.ireturn, 1) := by decide +kernel
theorem d_FL_ledger_0 : decode b_FL_ledger 0 = .ok (.iload_n 1, 1) := by decide +kernel
theorem d_FL_ledger_1 : decode b_FL_ledger 1 = .ok (.tableswitch 54 0 2 #[27, 32, 37], 27) := by decide +kernel
theorem d_FL_ledger_28 : decode b_FL_ledger 28 = .ok (.aload_n 0, 1) := by decide +kernel
theorem d_FL_ledger_29 : decode b_FL_ledger 29 = .ok (.getfield 53, 3) := by decide +kernel
theorem d_FL_ledger_32 : decode b_FL_ledger 32 = .ok (.ireturn, 1) := by decide +kernel
theorem d_FL_ledger_33 : decode b_FL_ledger 33 = .ok (.aload_n 0, 1) := by decide +kernel
theorem d_FL_ledger_34 : decode b_FL_ledger 34 = .ok (.getfield 56, 3) := by decide +kernel
theorem d_FL_ledger_37 : decode b_FL_ledger 37 = .ok (.ireturn, 1) := by decide +kernel
theorem d_FL_ledger_38 : decode b_FL_ledger 38 = .ok (.aload_n 0, 1) := by decide +kernel
theorem d_FL_ledger_39 : decode b_FL_ledger 39 = .ok (.getfield 53, 3) := by decide +kernel
theorem d_FL_ledger_42 : decode b_FL_ledger 42 = .ok (.iconst 2, 1) := by decide +kernel
theorem d_FL_ledger_43 : decode b_FL_ledger 43 = .ok (.if_icmp .ne 10, 3) := by decide +kernel
theorem d_FL_ledger_46 : decode b_FL_ledger 46 = .ok (.aload_n 0, 1) := by decide +kernel
theorem d_FL_ledger_47 : decode b_FL_ledger 47 = .ok (.getfield 59, 3) := by decide +kernel
theorem d_FL_ledger_50 : decode b_FL_ledger 50 = .ok (.goto 4, 3) := by decide +kernel
theorem d_FL_ledger_53 : decode b_FL_ledger 53 = .ok (.iconst (-1), 1) := by decide +kernel
theorem d_FL_ledger_54 : decode b_FL_ledger 54 = .ok (.ireturn, 1) := by decide +kernel
theorem d_FL_ledger_55 : decode b_FL_ledger 55 = .ok (.iconst (-1), 1) := by decide +kernel
theorem d_FL_ledger_56 : decode b_FL_ledger 56 = .ok (.ireturn, 1) := by decide +kernel
theorem d_FL_firstUpWith_0 : decode b_FL_firstUpWith 0 = .ok (.iconst 0, 1) := by decide +kernel
theorem d_FL_firstUpWith_1 : decode b_FL_firstUpWith 1 = .ok (.istore_n 2, 1) := by decide +kernel
theorem d_FL_firstUpWith_2 : decode b_FL_firstUpWith 2 = .ok (.iload_n 2, 1) := by decide +kernel
theorem d_FL_firstUpWith_3 : decode b_FL_firstUpWith 3 = .ok (.aload_n 0, 1) := by decide +kernel
theorem d_FL_firstUpWith_4 : decode b_FL_firstUpWith 4 = .ok (.getfield 17, 3) := by decide +kernel
theorem d_FL_firstUpWith_7 : decode b_FL_firstUpWith 7 = .ok (.if_icmp .ge 44, 3) := by decide +kernel
theorem d_FL_firstUpWith_10 : decode b_FL_firstUpWith 10 = .ok (.aload_n 0, 1) := by decide +kernel
theorem d_FL_firstUpWith_11 : decode b_FL_firstUpWith 11 = .ok (.iload_n 1, 1) := by decide +kernel
theorem d_FL_firstUpWith_12 : decode b_FL_firstUpWith 12 = .ok (.iload_n 2, 1) := by decide +kernel
theorem d_FL_firstUpWith_13 : decode b_FL_firstUpWith 13 = .ok (.invokevirtual 198, 3) := by decide +kernel
theorem d_FL_firstUpWith_16 : decode b_FL_firstUpWith 16 = .ok (.istore_n 3, 1) := by decide +kernel
theorem d_FL_firstUpWith_17 : decode b_FL_firstUpWith 17 = .ok (.aload_n 0, 1) := by decide +kernel
theorem d_FL_firstUpWith_18 : decode b_FL_firstUpWith 18 = .ok (.getfield 25, 3) := by decide +kernel
theorem d_FL_firstUpWith_21 : decode b_FL_firstUpWith 21 = .ok (.iload_n 3, 1) := by decide +kernel
theorem d_FL_firstUpWith_22 : decode b_FL_firstUpWith 22 = .ok (.aaload, 1) := by decide +kernel
theorem d_FL_firstUpWith_23 : decode b_FL_firstUpWith 23 = .ok (.getfield 161, 3) := by decide +kernel
theorem d_FL_firstUpWith_26 : decode b_FL_firstUpWith 26 = .ok (.ifCond .eq 19, 3) := by decide +kernel
theorem d_FL_firstUpWith_29 : decode b_FL_firstUpWith 29 = .ok (.aload_n 0, 1) := by decide +kernel
theorem d_FL_firstUpWith_30 : decode b_FL_firstUpWith 30 = .ok (.getfield 25, 3) := by decide +kernel
theorem d_FL_firstUpWith_33 : decode b_FL_firstUpWith 33 = .ok (.iload_n 3, 1) := by decide +kernel
theorem d_FL_firstUpWith_34 : decode b_FL_firstUpWith 34 = .ok (.aaload, 1) := by decide +kernel
theorem d_FL_firstUpWith_35 : decode b_FL_firstUpWith 35 = .ok (.getfield 169, 3) := by decide +kernel
theorem d_FL_firstUpWith_38 : decode b_FL_firstUpWith 38 = .ok (.iload_n 1, 1) := by decide +kernel
theorem d_FL_firstUpWith_39 : decode b_FL_firstUpWith 39 = .ok (.baload, 1) := by decide +kernel
theorem d_FL_firstUpWith_40 : decode b_FL_firstUpWith 40 = .ok (.ifCond .eq 5, 3) := by decide +kernel
theorem d_FL_firstUpWith_43 : decode b_FL_firstUpWith 43 = .ok (.iload_n 3, 1) := by decide +kernel
theorem d_FL_firstUpWith_44 : decode b_FL_firstUpWith 44 = .ok (.ireturn, 1) := by decide +kernel
theorem d_FL_firstUpWith_45 : decode b_FL_firstUpWith 45 = .ok (.iinc 2 1, 3) := by decide +kernel
theorem d_FL_firstUpWith_48 : decode b_FL_firstUpWith 48 = .ok (.goto (-46), 3) := by decide +kernel
theorem d_FL_firstUpWith_51 : decode b_FL_firstUpWith 51 = .ok (.iconst (-1), 1) := by decide +kernel
theorem d_FL_firstUpWith_52 : decode b_FL_firstUpWith 52 = .ok (.ireturn, 1) := by decide +kernel
theorem d_MD_init_0 : decode b_MD_init 0 = .ok (.aload_n 0, 1) := by decide +kernel
theorem d_MD_init_1 : decode b_MD_init 1 = .ok (.invokespecial 1, 3) := by decide +kernel
theorem d_MD_init_4 : decode b_MD_init 4 = .ok (.aload_n 0, 1) := by decide +kernel
theorem d_MD_init_5 : decode b_MD_init 5 = .ok (.iconst 5, 1) := by decide +kernel
theorem d_MD_init_6 : decode b_MD_init 6 = .ok (.newarray .boolean, 2) := by decide +kernel
theorem d_MD_init_8 : decode b_MD_init 8 = .ok (.putfield 7, 3) := by decide +kernel
theorem d_MD_init_11 : decode b_MD_init 11 = .ok (.aload_n 0, 1) := by decide +kernel
theorem d_MD_init_12 : decode b_MD_init 12 = .ok (.iconst 5, 1) := by decide +kernel
theorem d_MD_init_13 : decode b_MD_init 13 = .ok (.newarray .boolean, 2) := by decide +kernel
theorem d_MD_init_15 : decode b_MD_init 15 = .ok (.putfield 13, 3) := by decide +kernel
theorem d_MD_init_18 : decode b_MD_init 18 = .ok (.aload_n 0, 1) := by decide +kernel
theorem d_MD_init_19 : decode b_MD_init 19 = .ok (.iconst 5, 1) := by decide +kernel
theorem d_MD_init_20 : decode b_MD_init 20 = .ok (.newarray .int, 2) := by decide +kernel
theorem d_MD_init_22 : decode b_MD_init 22 = .ok (.putfield 16, 3) := by decide +kernel
theorem d_MD_init_25 : decode b_MD_init 25 = .ok (.aload_n 0, 1) := by decide +kernel
theorem d_MD_init_26 : decode b_MD_init 26 = .ok (.bipush 100, 2) := by decide +kernel
theorem d_MD_init_28 : decode b_MD_init 28 = .ok (.newarray .boolean, 2) := by decide +kernel
theorem d_MD_init_30 : decode b_MD_init 30 = .ok (.putfield 20, 3) := by decide +kernel
theorem d_MD_init_33 : decode b_MD_init 33 = .ok (.aload_n 0, 1) := by decide +kernel
theorem d_MD_init_34 : decode b_MD_init 34 = .ok (.bipush 100, 2) := by decide +kernel
theorem d_MD_init_36 : decode b_MD_init 36 = .ok (.newarray .int, 2) := by decide +kernel
theorem d_MD_init_38 : decode b_MD_init 38 = .ok (.putfield 23, 3) := by decide +kernel
theorem d_MD_init_41 : decode b_MD_init 41 = .ok (.aload_n 0, 1) := by decide +kernel
theorem d_MD_init_42 : decode b_MD_init 42 = .ok (.iconst (-1), 1) := by decide +kernel
theorem d_MD_init_43 : decode b_MD_init 43 = .ok (.putfield 26, 3) := by decide +kernel
theorem d_MD_init_46 : decode b_MD_init 46 = .ok (.aload_n 0, 1) := by decide +kernel
theorem d_MD_init_47 : decode b_MD_init 47 = .ok (.sipush 140, 3) := by decide +kernel
theorem d_MD_init_50 : decode b_MD_init 50 = .ok (.newarray .int, 2) := by decide +kernel
theorem d_MD_init_52 : decode b_MD_init 52 = .ok (.putfield 30, 3) := by decide +kernel
theorem d_MD_init_55 : decode b_MD_init 55 = .ok (.aload_n 0, 1) := by decide +kernel
theorem d_MD_init_56 : decode b_MD_init 56 = .ok (.iconst (-1), 1) := by decide +kernel
theorem d_MD_init_57 : decode b_MD_init 57 = .ok (.putfield 33, 3) := by decide +kernel
theorem d_MD_init_60 : decode b_MD_init 60 = .ok (.aload_n 0, 1) := by decide +kernel
theorem d_MD_init_61 : decode b_MD_init 61 = .ok (.bipush 20, 2) := by decide +kernel
theorem d_MD_init_63 : decode b_MD_init 63 = .ok (.newarray .int, 2) := by decide +kernel
theorem d_MD_init_65 : decode b_MD_init 65 = .ok (.putfield 36, 3) := by decide +kernel
theorem d_MD_init_68 : decode b_MD_init 68 = .ok (.aload_n 0, 1) := by decide +kernel
theorem d_MD_init_69 : decode b_MD_init 69 = .ok (.bipush 100, 2) := by decide +kernel
theorem d_MD_init_71 : decode b_MD_init 71 = .ok (.newarray .boolean, 2) := by decide +kernel
theorem d_MD_init_73 : decode b_MD_init 73 = .ok (.putfield 39, 3) := by decide +kernel
theorem d_MD_init_76 : decode b_MD_init 76 = .ok (.aload_n 0, 1) := by decide +kernel
theorem d_MD_init_77 : decode b_MD_init 77 = .ok (.iconst 3, 1) := by decide +kernel
theorem d_MD_init_78 : decode b_MD_init 78 = .ok (.newarray .int, 2) := by decide +kernel
theorem d_MD_init_80 : decode b_MD_init 80 = .ok (.putfield 42, 3) := by decide +kernel
theorem d_MD_init_83 : decode b_MD_init 83 = .ok (.aload_n 0, 1) := by decide +kernel
theorem d_MD_init_84 : decode b_MD_init 84 = .ok (.iconst 3, 1) := by decide +kernel
theorem d_MD_init_85 : decode b_MD_init 85 = .ok (.newarray .int, 2) := by decide +kernel
theorem d_MD_init_87 : decode b_MD_init 87 = .ok (.putfield 45, 3) := by decide +kernel
theorem d_MD_init_90 : decode b_MD_init 90 = .ok (.aload_n 0, 1) := by decide +kernel
theorem d_MD_init_91 : decode b_MD_init 91 = .ok (.iconst 3, 1) := by decide +kernel
theorem d_MD_init_92 : decode b_MD_init 92 = .ok (.newarray .int, 2) := by decide +kernel
theorem d_MD_init_94 : decode b_MD_init 94 = .ok (.putfield 48, 3) := by decide +kernel
theorem d_MD_init_97 : decode b_MD_init 97 = .ok (.aload_n 0, 1) := by decide +kernel
theorem d_MD_init_98 : decode b_MD_init 98 = .ok (.iconst 3, 1) := by decide +kernel
theorem d_MD_init_99 : decode b_MD_init 99 = .ok (.newarray .int, 2) := by decide +kernel
theorem d_MD_init_101 : decode b_MD_init 101 = .ok (.putfield 51, 3) := by decide +kernel
theorem d_MD_init_104 : decode b_MD_init 104 = .ok (.aload_n 0, 1) := by decide +kernel
theorem d_MD_init_105 : decode b_MD_init 105 = .ok (.iconst 3, 1) := by decide +kernel
theorem d_MD_init_106 : decode b_MD_init 106 = .ok (.newarray .int, 2) := by decide +kernel
theorem d_MD_init_108 : decode b_MD_init 108 = .ok (.putfield 54, 3) := by decide +kernel
theorem d_MD_init_111 : decode b_MD_init 111 = .ok (.aload_n 0, 1) := by decide +kernel
theorem d_MD_init_112 : decode b_MD_init 112 = .ok (.bipush 15, 2) := by decide +kernel
theorem d_MD_init_114 : decode b_MD_init 114 = .ok (.newarray .boolean, 2) := by decide +kernel
theorem d_MD_init_116 : decode b_MD_init 116 = .ok (.putfield 57, 3) := by decide +kernel
theorem d_MD_init_119 : decode b_MD_init 119 = .ok (.aload_n 0, 1) := by decide +kernel
theorem d_MD_init_120 : decode b_MD_init 120 = .ok (.iload_n 1, 1) := by decide +kernel
theorem d_MD_init_121 : decode b_MD_init 121 = .ok (.iconst 3, 1) := by decide +kernel
theorem d_MD_init_122 : decode b_MD_init 122 = .ok (.if_icmp .ge 7, 3) := by decide +kernel
theorem d_MD_init_125 : decode b_MD_init 125 = .ok (.iconst 3, 1) := by decide +kernel
theorem d_MD_init_126 : decode b_MD_init 126 = .ok (.goto 13, 3) := by decide +kernel
theorem d_MD_init_129 : decode b_MD_init 129 = .ok (.iload_n 1, 1) := by decide +kernel
theorem d_MD_init_130 : decode b_MD_init 130 = .ok (.iconst 5, 1) := by decide +kernel
theorem d_MD_init_131 : decode b_MD_init 131 = .ok (.if_icmp .le 7, 3) := by decide +kernel
theorem d_MD_init_134 : decode b_MD_init 134 = .ok (.iconst 5, 1) := by decide +kernel
theorem d_MD_init_135 : decode b_MD_init 135 = .ok (.goto 4, 3) := by decide +kernel
theorem d_MD_init_138 : decode b_MD_init 138 = .ok (.iload_n 1, 1) := by decide +kernel
theorem d_MD_init_139 : decode b_MD_init 139 = .ok (.putfield 60, 3) := by decide +kernel
theorem d_MD_init_142 : decode b_MD_init 142 = .ok (.aload_n 0, 1) := by decide +kernel
theorem d_MD_init_143 : decode b_MD_init 143 = .ok (.iload_n 2, 1) := by decide +kernel
theorem d_MD_init_144 : decode b_MD_init 144 = .ok (.iconst 2, 1) := by decide +kernel
theorem d_MD_init_145 : decode b_MD_init 145 = .ok (.if_icmp .ge 7, 3) := by decide +kernel
theorem d_MD_init_148 : decode b_MD_init 148 = .ok (.iconst 2, 1) := by decide +kernel
theorem d_MD_init_149 : decode b_MD_init 149 = .ok (.goto 19, 3) := by decide +kernel
theorem d_MD_init_152 : decode b_MD_init 152 = .ok (.iload_n 2, 1) := by decide +kernel
theorem d_MD_init_153 : decode b_MD_init 153 = .ok (.aload_n 0, 1) := by decide +kernel
theorem d_MD_init_154 : decode b_MD_init 154 = .ok (.getfield 60, 3) := by decide +kernel
theorem d_MD_init_157 : decode b_MD_init 157 = .ok (.if_icmp .le 10, 3) := by decide +kernel
theorem d_MD_init_160 : decode b_MD_init 160 = .ok (.aload_n 0, 1) := by decide +kernel
theorem d_MD_init_161 : decode b_MD_init 161 = .ok (.getfield 60, 3) := by decide +kernel
theorem d_MD_init_164 : decode b_MD_init 164 = .ok (.goto 4, 3) := by decide +kernel
theorem d_MD_init_167 : decode b_MD_init 167 = .ok (.iload_n 2, 1) := by decide +kernel
theorem d_MD_init_168 : decode b_MD_init 168 = .ok (.putfield 63, 3) := by decide +kernel
theorem d_MD_init_171 : decode b_MD_init 171 = .ok (.aload_n 0, 1) := by decide +kernel
theorem d_MD_init_172 : decode b_MD_init 172 = .ok (.iload_n 3, 1) := by decide +kernel
theorem d_MD_init_173 : decode b_MD_init 173 = .ok (.iconst 1, 1) := by decide +kernel
theorem d_MD_init_174 : decode b_MD_init 174 = .ok (.if_icmp .ge 7, 3) := by decide +kernel
theorem d_MD_init_177 : decode b_MD_init 177 = .ok (.iconst 1, 1) := by decide +kernel
theorem d_MD_init_178 : decode b_MD_init 178 = .ok (.goto 19, 3) := by decide +kernel
theorem d_MD_init_181 : decode b_MD_init 181 = .ok (.iload_n 3, 1) := by decide +kernel
theorem d_MD_init_182 : decode b_MD_init 182 = .ok (.aload_n 0, 1) := by decide +kernel
theorem d_MD_init_183 : decode b_MD_init 183 = .ok (.getfield 63, 3) := by decide +kernel
theorem d_MD_init_186 : decode b_MD_init 186 = .ok (.if_icmp .le 10, 3) := by decide +kernel
theorem d_MD_init_189 : decode b_MD_init 189 = .ok (.aload_n 0, 1) := by decide +kernel
theorem d_MD_init_190 : decode b_MD_init 190 = .ok (.getfield 63, 3) := by decide +kernel
theorem d_MD_init_193 : decode b_MD_init 193 = .ok (.goto 4, 3) := by decide +kernel
theorem d_MD_init_196 : decode b_MD_init 196 = .ok (.iload_n 3, 1) := by decide +kernel
theorem d_MD_init_197 : decode b_MD_init 197 = .ok (.putfield 66, 3) := by decide +kernel
theorem d_MD_init_200 : decode b_MD_init 200 = .ok (.iconst 0, 1) := by decide +kernel
theorem d_MD_init_201 : decode b_MD_init 201 = .ok (.istore 4, 2) := by decide +kernel
theorem d_MD_init_203 : decode b_MD_init 203 = .ok (.iload 4, 2) := by decide +kernel
theorem d_MD_init_205 : decode b_MD_init 205 = .ok (.iconst 5, 1) := by decide +kernel
theorem d_MD_init_206 : decode b_MD_init 206 = .ok (.if_icmp .ge 17, 3) := by decide +kernel
theorem d_MD_init_209 : decode b_MD_init 209 = .ok (.aload_n 0, 1) := by decide +kernel
theorem d_MD_init_210 : decode b_MD_init 210 = .ok (.getfield 16, 3) := by decide +kernel
theorem d_MD_init_213 : decode b_MD_init 213 = .ok (.iload 4, 2) := by decide +kernel
theorem d_MD_init_215 : decode b_MD_init 215 = .ok (.iconst (-1), 1) := by decide +kernel
theorem d_MD_init_216 : decode b_MD_init 216 = .ok (.iastore, 1) := by decide +kernel
theorem d_MD_init_217 : decode b_MD_init 217 = .ok (.iinc 4 1, 3) := by decide +kernel
theorem d_MD_init_220 : decode b_MD_init 220 = .ok (.goto (-17), 3) := by decide +kernel
theorem d_MD_init_223 : decode b_MD_init 223 = .ok (.aload_n 0, 1) := by decide +kernel
theorem d_MD_init_224 : decode b_MD_init 224 = .ok (.getfield 51, 3) := by decide +kernel
theorem d_MD_init_227 : decode b_MD_init 227 = .ok (.iconst 1, 1) := by decide +kernel
theorem d_MD_init_228 : decode b_MD_init 228 = .ok (.iconst (-1), 1) := by decide +kernel
theorem d_MD_init_229 : decode b_MD_init 229 = .ok (.iastore, 1) := by decide +kernel
theorem d_MD_init_230 : decode b_MD_init 230 = .ok (.aload_n 0, 1) := by decide +kernel
theorem d_MD_init_231 : decode b_MD_init 231 = .ok (.getfield 51, 3) := by decide +kernel
theorem d_MD_init_234 : decode b_MD_init 234 = .ok (.iconst 2, 1) := by decide +kernel
theorem d_MD_init_235 : decode b_MD_init 235 = .ok (.iconst (-1), 1) := by decide +kernel
theorem d_MD_init_236 : decode b_MD_init 236 = .ok (.iastore, 1) := by decide +kernel
theorem d_MD_init_237 : decode b_MD_init 237 = .ok (.return_, 1) := by decide +kernel
theorem d_MD_thrown_0 : decode b_MD_thrown 0 = .ok (.aload_n 0, 1) := by decide +kernel
theorem d_MD_thrown_1 : decode b_MD_thrown 1 = .ok (.getfield 69, 3) := by decide +kernel
theorem d_MD_thrown_4 : decode b_MD_thrown 4 = .ok (.ireturn, 1) := by decide +kernel
theorem d_MD_send_0 : decode b_MD_send 0 = .ok (.aload_n 0, 1) := by decide +kernel
theorem d_MD_send_1 : decode b_MD_send 1 = .ok (.getfield 72, 3) := by decide +kernel
theorem d_MD_send_4 : decode b_MD_send 4 = .ok (.bipush 20, 2) := by decide +kernel
theorem d_MD_send_6 : decode b_MD_send 6 = .ok (.if_icmp .ne 4, 3) := by decide +kernel
theorem d_MD_send_9 : decode b_MD_send 9 = .ok (.return_, 1) := by decide +kernel
theorem d_MD_send_10 : decode b_MD_send 10 = .ok (.bipush 7, 2) := by decide +kernel
theorem d_MD_send_12 : decode b_MD_send 12 = .ok (.aload_n 0, 1) := by decide +kernel
theorem d_MD_send_13 : decode b_MD_send 13 = .ok (.getfield 72, 3) := by decide +kernel
theorem d_MD_send_16 : decode b_MD_send 16 = .ok (.imul, 1) := by decide +kernel
theorem d_MD_send_17 : decode b_MD_send 17 = .ok (.istore 8, 2) := by decide +kernel
theorem d_MD_send_19 : decode b_MD_send 19 = .ok (.aload_n 0, 1) := by decide +kernel
theorem d_MD_send_20 : decode b_MD_send 20 = .ok (.getfield 30, 3) := by decide +kernel
theorem d_MD_send_23 : decode b_MD_send 23 = .ok (.iload 8, 2) := by decide +kernel
theorem d_MD_send_25 : decode b_MD_send 25 = .ok (.iload_n 1, 1) := by decide +kernel
theorem d_MD_send_26 : decode b_MD_send 26 = .ok (.iastore, 1) := by decide +kernel
theorem d_MD_send_27 : decode b_MD_send 27 = .ok (.aload_n 0, 1) := by decide +kernel
theorem d_MD_send_28 : decode b_MD_send 28 = .ok (.getfield 30, 3) := by decide +kernel
theorem d_MD_send_31 : decode b_MD_send 31 = .ok (.iload 8, 2) := by decide +kernel
theorem d_MD_send_33 : decode b_MD_send 33 = .ok (.iconst 1, 1) := by decide +kernel
theorem d_MD_send_34 : decode b_MD_send 34 = .ok (.iadd, 1) := by decide +kernel
theorem d_MD_send_35 : decode b_MD_send 35 = .ok (.iload_n 2, 1) := by decide +kernel
theorem d_MD_send_36 : decode b_MD_send 36 = .ok (.iastore, 1) := by decide +kernel
theorem d_MD_send_37 : decode b_MD_send 37 = .ok (.aload_n 0, 1) := by decide +kernel
theorem d_MD_send_38 : decode b_MD_send 38 = .ok (.getfield 30, 3) := by decide +kernel
theorem d_MD_send_41 : decode b_MD_send 41 = .ok (.iload 8, 2) := by decide +kernel
theorem d_MD_send_43 : decode b_MD_send 43 = .ok (.iconst 2, 1) := by decide +kernel
theorem d_MD_send_44 : decode b_MD_send 44 = .ok (.iadd, 1) := by decide +kernel
theorem d_MD_send_45 : decode b_MD_send 45 = .ok (.iload_n 3, 1) := by decide +kernel
theorem d_MD_send_46 : decode b_MD_send 46 = .ok (.iastore, 1) := by decide +kernel
theorem d_MD_send_47 : decode b_MD_send 47 = .ok (.aload_n 0, 1) := by decide +kernel
theorem d_MD_send_48 : decode b_MD_send 48 = .ok (.getfield 30, 3) := by decide +kernel
theorem d_MD_send_51 : decode b_MD_send 51 = .ok (.iload 8, 2) := by decide +kernel
theorem d_MD_send_53 : decode b_MD_send 53 = .ok (.iconst 3, 1) := by decide +kernel
theorem d_MD_send_54 : decode b_MD_send 54 = .ok (.iadd, 1) := by decide +kernel
theorem d_MD_send_55 : decode b_MD_send 55 = .ok (.iload 4, 2) := by decide +kernel
theorem d_MD_send_57 : decode b_MD_send 57 = .ok (.iastore, 1) := by decide +kernel
theorem d_MD_send_58 : decode b_MD_send 58 = .ok (.aload_n 0, 1) := by decide +kernel
theorem d_MD_send_59 : decode b_MD_send 59 = .ok (.getfield 30, 3) := by decide +kernel
theorem d_MD_send_62 : decode b_MD_send 62 = .ok (.iload 8, 2) := by decide +kernel
theorem d_MD_send_64 : decode b_MD_send 64 = .ok (.iconst 4, 1) := by decide +kernel
theorem d_MD_send_65 : decode b_MD_send 65 = .ok (.iadd, 1) := by decide +kernel
theorem d_MD_send_66 : decode b_MD_send 66 = .ok (.iload 5, 2) := by decide +kernel
theorem d_MD_send_68 : decode b_MD_send 68 = .ok (.iastore, 1) := by decide +kernel
theorem d_MD_send_69 : decode b_MD_send 69 = .ok (.aload_n 0, 1) := by decide +kernel
theorem d_MD_send_70 : decode b_MD_send 70 = .ok (.getfield 30, 3) := by decide +kernel
theorem d_MD_send_73 : decode b_MD_send 73 = .ok (.iload 8, 2) := by decide +kernel
theorem d_MD_send_75 : decode b_MD_send 75 = .ok (.iconst 5, 1) := by decide +kernel
theorem d_MD_send_76 : decode b_MD_send 76 = .ok (.iadd, 1) := by decide +kernel
theorem d_MD_send_77 : decode b_MD_send 77 = .ok (.iload 6, 2) := by decide +kernel
theorem d_MD_send_79 : decode b_MD_send 79 = .ok (.iastore, 1) := by decide +kernel
theorem d_MD_send_80 : decode b_MD_send 80 = .ok (.aload_n 0, 1) := by decide +kernel
theorem d_MD_send_81 : decode b_MD_send 81 = .ok (.getfield 30, 3) := by decide +kernel
theorem d_MD_send_84 : decode b_MD_send 84 = .ok (.iload 8, 2) := by decide +kernel
theorem d_MD_send_86 : decode b_MD_send 86 = .ok (.bipush 6, 2) := by decide +kernel
theorem d_MD_send_88 : decode b_MD_send 88 = .ok (.iadd, 1) := by decide +kernel
theorem d_MD_send_89 : decode b_MD_send 89 = .ok (.iload 7, 2) := by decide +kernel
theorem d_MD_send_91 : decode b_MD_send 91 = .ok (.iastore, 1) := by decide +kernel
theorem d_MD_send_92 : decode b_MD_send 92 = .ok (.aload_n 0, 1) := by decide +kernel
theorem d_MD_send_93 : decode b_MD_send 93 = .ok (.dup, 1) := by decide +kernel
theorem d_MD_send_94 : decode b_MD_send 94 = .ok (.getfield 72, 3) := by decide +kernel
theorem d_MD_send_97 : decode b_MD_send 97 = .ok (.iconst 1, 1) := by decide +kernel
theorem d_MD_send_98 : decode b_MD_send 98 = .ok (.iadd, 1) := by decide +kernel
theorem d_MD_send_99 : decode b_MD_send 99 = .ok (.putfield 72, 3) := by decide +kernel
theorem d_MD_send_102 : decode b_MD_send 102 = .ok (.return_, 1) := by decide +kernel
theorem d_MD_remove_0 : decode b_MD_remove 0 = .ok (.aload_n 0, 1) := by decide +kernel
theorem d_MD_remove_1 : decode b_MD_remove 1 = .ok (.dup, 1) := by decide +kernel
theorem d_MD_remove_2 : decode b_MD_remove 2 = .ok (.getfield 72, 3) := by decide +kernel
theorem d_MD_remove_5 : decode b_MD_remove 5 = .ok (.iconst 1, 1) := by decide +kernel
theorem d_MD_remove_6 : decode b_MD_remove 6 = .ok (.isub, 1) := by decide +kernel
theorem d_MD_remove_7 : decode b_MD_remove 7 = .ok (.putfield 72, 3) := by decide +kernel
theorem d_MD_remove_10 : decode b_MD_remove 10 = .ok (.bipush 7, 2) := by decide +kernel
theorem d_MD_remove_12 : decode b_MD_remove 12 = .ok (.iload_n 1, 1) := by decide +kernel
theorem d_MD_remove_13 : decode b_MD_remove 13 = .ok (.imul, 1) := by decide +kernel
theorem d_MD_remove_14 : decode b_MD_remove 14 = .ok (.istore_n 2, 1) := by decide +kernel
theorem d_MD_remove_15 : decode b_MD_remove 15 = .ok (.iload_n 2, 1) := by decide +kernel
theorem d_MD_remove_16 : decode b_MD_remove 16 = .ok (.bipush 7, 2) := by decide +kernel
theorem d_MD_remove_18 : decode b_MD_remove 18 = .ok (.aload_n 0, 1) := by decide +kernel
theorem d_MD_remove_19 : decode b_MD_remove 19 = .ok (.getfield 72, 3) := by decide +kernel
theorem d_MD_remove_22 : decode b_MD_remove 22 = .ok (.imul, 1) := by decide +kernel
theorem d_MD_remove_23 : decode b_MD_remove 23 = .ok (.if_icmp .ge 24, 3) := by decide +kernel
theorem d_MD_remove_26 : decode b_MD_remove 26 = .ok (.aload_n 0, 1) := by decide +kernel
theorem d_MD_remove_27 : decode b_MD_remove 27 = .ok (.getfield 30, 3) := by decide +kernel
theorem d_MD_remove_30 : decode b_MD_remove 30 = .ok (.iload_n 2, 1) := by decide +kernel
theorem d_MD_remove_31 : decode b_MD_remove 31 = .ok (.aload_n 0, 1) := by decide +kernel
theorem d_MD_remove_32 : decode b_MD_remove 32 = .ok (.getfield 30, 3) := by decide +kernel
theorem d_MD_remove_35 : decode b_MD_remove 35 = .ok (.iload_n 2, 1) := by decide +kernel
theorem d_MD_remove_36 : decode b_MD_remove 36 = .ok (.bipush 7, 2) := by decide +kernel
theorem d_MD_remove_38 : decode b_MD_remove 38 = .ok (.iadd, 1) := by decide +kernel
theorem d_MD_remove_39 : decode b_MD_remove 39 = .ok (.iaload, 1) := by decide +kernel
theorem d_MD_remove_40 : decode b_MD_remove 40 = .ok (.iastore, 1) := by decide +kernel
theorem d_MD_remove_41 : decode b_MD_remove 41 = .ok (.iinc 2 1, 3) := by decide +kernel
theorem d_MD_remove_44 : decode b_MD_remove 44 = .ok (.goto (-29), 3) := by decide +kernel
theorem d_MD_remove_47 : decode b_MD_remove 47 = .ok (.return_, 1) := by decide +kernel
theorem d_MD_isMessage_0 : decode b_MD_isMessage 0 = .ok (.iload_n 1, 1) := by decide +kernel
theorem d_MD_isMessage_1 : decode b_MD_isMessage 1 = .ok (.ifCond .lt 15, 3) := by decide +kernel
theorem d_MD_isMessage_4 : decode b_MD_isMessage 4 = .ok (.iload_n 1, 1) := by decide +kernel
theorem d_MD_isMessage_5 : decode b_MD_isMessage 5 = .ok (.aload_n 0, 1) := by decide +kernel
theorem d_MD_isMessage_6 : decode b_MD_isMessage 6 = .ok (.getfield 72, 3) := by decide +kernel
theorem d_MD_isMessage_9 : decode b_MD_isMessage 9 = .ok (.if_icmp .ge 7, 3) := by decide +kernel
theorem d_MD_isMessage_12 : decode b_MD_isMessage 12 = .ok (.iconst 1, 1) := by decide +kernel
theorem d_MD_isMessage_13 : decode b_MD_isMessage 13 = .ok (.goto 4, 3) := by decide +kernel
theorem d_MD_isMessage_16 : decode b_MD_isMessage 16 = .ok (.iconst 0, 1) := by decide +kernel
theorem d_MD_isMessage_17 : decode b_MD_isMessage 17 = .ok (.ireturn, 1) := by decide +kernel
theorem d_MD_answerCount_0 : decode b_MD_answerCount 0 = .ok (.iconst 0, 1) := by decide +kernel
theorem d_MD_answerCount_1 : decode b_MD_answerCount 1 = .ok (.istore_n 2, 1) := by decide +kernel
theorem d_MD_answerCount_2 : decode b_MD_answerCount 2 = .ok (.iconst 0, 1) := by decide +kernel
theorem d_MD_answerCount_3 : decode b_MD_answerCount 3 = .ok (.istore_n 3, 1) := by decide +kernel
theorem d_MD_answerCount_4 : decode b_MD_answerCount 4 = .ok (.iload_n 3, 1) := by decide +kernel
theorem d_MD_answerCount_5 : decode b_MD_answerCount 5 = .ok (.aload_n 0, 1) := by decide +kernel
theorem d_MD_answerCount_6 : decode b_MD_answerCount 6 = .ok (.getfield 60, 3) := by decide +kernel
theorem d_MD_answerCount_9 : decode b_MD_answerCount 9 = .ok (.if_icmp .ge 30, 3) := by decide +kernel
theorem d_MD_answerCount_12 : decode b_MD_answerCount 12 = .ok (.iload_n 2, 1) := by decide +kernel
theorem d_MD_answerCount_13 : decode b_MD_answerCount 13 = .ok (.aload_n 0, 1) := by decide +kernel
theorem d_MD_answerCount_14 : decode b_MD_answerCount 14 = .ok (.getfield 57, 3) := by decide +kernel
theorem d_MD_answerCount_17 : decode b_MD_answerCount 17 = .ok (.iconst 5, 1) := by decide +kernel
theorem d_MD_answerCount_18 : decode b_MD_answerCount 18 = .ok (.iload_n 1, 1) := by decide +kernel
theorem d_MD_answerCount_19 : decode b_MD_answerCount 19 = .ok (.imul, 1) := by decide +kernel
theorem d_MD_answerCount_20 : decode b_MD_answerCount 20 = .ok (.iload_n 3, 1) := by decide +kernel
theorem d_MD_answerCount_21 : decode b_MD_answerCount 21 = .ok (.iadd, 1) := by decide +kernel
theorem d_MD_answerCount_22 : decode b_MD_answerCount 22 = .ok (.baload, 1) := by decide +kernel
theorem d_MD_answerCount_23 : decode b_MD_answerCount 23 = .ok (.ifCond .eq 7, 3) := by decide +kernel
theorem d_MD_answerCount_26 : decode b_MD_answerCount 26 = .ok (.iconst 1, 1) := by decide +kernel
theorem d_MD_answerCount_27 : decode b_MD_answerCount 27 = .ok (.goto 4, 3) := by decide +kernel
theorem d_MD_answerCount_30 : decode b_MD_answerCount 30 = .ok (.iconst 0, 1) := by decide +kernel
theorem d_MD_answerCount_31 : decode b_MD_answerCount 31 = .ok (.iadd, 1) := by decide +kernel
theorem d_MD_answerCount_32 : decode b_MD_answerCount 32 = .ok (.istore_n 2, 1) := by decide +kernel
theorem d_MD_answerCount_33 : decode b_MD_answerCount 33 = .ok (.iinc 3 1, 3) := by decide +kernel
theorem d_MD_answerCount_36 : decode b_MD_answerCount 36 = .ok (.goto (-32), 3) := by decide +kernel
theorem d_MD_answerCount_39 : decode b_MD_answerCount 39 = .ok (.iload_n 2, 1) := by decide +kernel
theorem d_MD_answerCount_40 : decode b_MD_answerCount 40 = .ok (.ireturn, 1) := by decide +kernel
theorem d_MD_forget_0 : decode b_MD_forget 0 = .ok (.iconst 0, 1) := by decide +kernel
theorem d_MD_forget_1 : decode b_MD_forget 1 = .ok (.istore_n 2, 1) := by decide +kernel
theorem d_MD_forget_2 : decode b_MD_forget 2 = .ok (.iload_n 2, 1) := by decide +kernel
theorem d_MD_forget_3 : decode b_MD_forget 3 = .ok (.iconst 5, 1) := by decide +kernel
theorem d_MD_forget_4 : decode b_MD_forget 4 = .ok (.if_icmp .ge 20, 3) := by decide +kernel
theorem d_MD_forget_7 : decode b_MD_forget 7 = .ok (.aload_n 0, 1) := by decide +kernel
theorem d_MD_forget_8 : decode b_MD_forget 8 = .ok (.getfield 57, 3) := by decide +kernel
theorem d_MD_forget_11 : decode b_MD_forget 11 = .ok (.iconst 5, 1) := by decide +kernel
theorem d_MD_forget_12 : decode b_MD_forget 12 = .ok (.iload_n 1, 1) := by decide +kernel
theorem d_MD_forget_13 : decode b_MD_forget 13 = .ok (.imul, 1) := by decide +kernel
theorem d_MD_forget_14 : decode b_MD_forget 14 = .ok (.iload_n 2, 1) := by decide +kernel
theorem d_MD_forget_15 : decode b_MD_forget 15 = .ok (.iadd, 1) := by decide +kernel
theorem d_MD_forget_16 : decode b_MD_forget 16 = .ok (.iconst 0, 1) := by decide +kernel
theorem d_MD_forget_17 : decode b_MD_forget 17 = .ok (.bastore, 1) := by decide +kernel
theorem d_MD_forget_18 : decode b_MD_forget 18 = .ok (.iinc 2 1, 3) := by decide +kernel
theorem d_MD_forget_21 : decode b_MD_forget 21 = .ok (.goto (-19), 3) := by decide +kernel
theorem d_MD_forget_24 : decode b_MD_forget 24 = .ok (.return_, 1) := by decide +kernel
theorem d_MD_ask_0 : decode b_MD_ask 0 = .ok (.iconst 0, 1) := by decide +kernel
theorem d_MD_ask_1 : decode b_MD_ask 1 = .ok (.istore_n 2, 1) := by decide +kernel
theorem d_MD_ask_2 : decode b_MD_ask 2 = .ok (.aload_n 0, 1) := by decide +kernel
theorem d_MD_ask_3 : decode b_MD_ask 3 = .ok (.getfield 42, 3) := by decide +kernel
theorem d_MD_ask_6 : decode b_MD_ask 6 = .ok (.iload_n 1, 1) := by decide +kernel
theorem d_MD_ask_7 : decode b_MD_ask 7 = .ok (.iaload, 1) := by decide +kernel
theorem d_MD_ask_8 : decode b_MD_ask 8 = .ok (.iconst 1, 1) := by decide +kernel
theorem d_MD_ask_9 : decode b_MD_ask 9 = .ok (.if_icmp .ne 10, 3) := by decide +kernel
theorem d_MD_ask_12 : decode b_MD_ask 12 = .ok (.aload_n 0, 1) := by decide +kernel
theorem d_MD_ask_13 : decode b_MD_ask 13 = .ok (.getfield 60, 3) := by decide +kernel
theorem d_MD_ask_16 : decode b_MD_ask 16 = .ok (.goto 7, 3) := by decide +kernel
theorem d_MD_ask_19 : decode b_MD_ask 19 = .ok (.aload_n 0, 1) := by decide +kernel
theorem d_MD_ask_20 : decode b_MD_ask 20 = .ok (.getfield 63, 3) := by decide +kernel
theorem d_MD_ask_23 : decode b_MD_ask 23 = .ok (.istore_n 3, 1) := by decide +kernel
theorem d_MD_ask_24 : decode b_MD_ask 24 = .ok (.iconst 0, 1) := by decide +kernel
theorem d_MD_ask_25 : decode b_MD_ask 25 = .ok (.istore 4, 2) := by decide +kernel
theorem d_MD_ask_27 : decode b_MD_ask 27 = .ok (.iload 4, 2) := by decide +kernel
theorem d_MD_ask_29 : decode b_MD_ask 29 = .ok (.iload_n 3, 1) := by decide +kernel
theorem d_MD_ask_30 : decode b_MD_ask 30 = .ok (.if_icmp .ge 156, 3) := by decide +kernel
theorem d_MD_ask_33 : decode b_MD_ask 33 = .ok (.aload_n 0, 1) := by decide +kernel
theorem d_MD_ask_34 : decode b_MD_ask 34 = .ok (.getfield 42, 3) := by decide +kernel
theorem d_MD_ask_37 : decode b_MD_ask 37 = .ok (.iload_n 1, 1) := by decide +kernel
theorem d_MD_ask_38 : decode b_MD_ask 38 = .ok (.iaload, 1) := by decide +kernel
theorem d_MD_ask_39 : decode b_MD_ask 39 = .ok (.iconst 1, 1) := by decide +kernel
theorem d_MD_ask_40 : decode b_MD_ask 40 = .ok (.if_icmp .ne 8, 3) := by decide +kernel
theorem d_MD_ask_43 : decode b_MD_ask 43 = .ok (.iload 4, 2) := by decide +kernel
theorem d_MD_ask_45 : decode b_MD_ask 45 = .ok (.goto 17, 3) := by decide +kernel
theorem d_MD_ask_48 : decode b_MD_ask 48 = .ok (.aload_n 0, 1) := by decide +kernel
theorem d_MD_ask_49 : decode b_MD_ask 49 = .ok (.getfield 48, 3) := by decide +kernel
theorem d_MD_ask_52 : decode b_MD_ask 52 = .ok (.iload_n 1, 1) := by decide +kernel
theorem d_MD_ask_53 : decode b_MD_ask 53 = .ok (.iaload, 1) := by decide +kernel
theorem d_MD_ask_54 : decode b_MD_ask 54 = .ok (.iload 4, 2) := by decide +kernel
theorem d_MD_ask_56 : decode b_MD_ask 56 = .ok (.iadd, 1) := by decide +kernel
theorem d_MD_ask_57 : decode b_MD_ask 57 = .ok (.aload_n 0, 1) := by decide +kernel
theorem d_MD_ask_58 : decode b_MD_ask 58 = .ok (.getfield 60, 3) := by decide +kernel
theorem d_MD_ask_61 : decode b_MD_ask 61 = .ok (.irem, 1) := by decide +kernel
theorem d_MD_ask_62 : decode b_MD_ask 62 = .ok (.istore 5, 2) := by decide +kernel
theorem d_MD_ask_64 : decode b_MD_ask 64 = .ok (.aload_n 0, 1) := by decide +kernel
theorem d_MD_ask_65 : decode b_MD_ask 65 = .ok (.getfield 57, 3) := by decide +kernel
theorem d_MD_ask_68 : decode b_MD_ask 68 = .ok (.iconst 5, 1) := by decide +kernel
end
section
theorem d_MD_ask_69 : decode b_MD_ask 69 = .ok (.iload_n 1, 1) := by decide +kernel
theorem d_MD_ask_70 : decode b_MD_ask 70 = .ok (.imul, 1) := by decide +kernel
theorem d_MD_ask_71 : decode b_MD_ask 71 = .ok (.iload 5, 2) := by decide +kernel
theorem d_MD_ask_73 : decode b_MD_ask 73 = .ok (.iadd, 1) := by decide +kernel
theorem d_MD_ask_74 : decode b_MD_ask 74 = .ok (.baload, 1) := by decide +kernel
theorem d_MD_ask_75 : decode b_MD_ask 75 = .ok (.ifCond .ne 105, 3) := by decide +kernel
theorem d_MD_ask_78 : decode b_MD_ask 78 = .ok (.aload_n 0, 1) := by decide +kernel
theorem d_MD_ask_79 : decode b_MD_ask 79 = .ok (.getfield 42, 3) := by decide +kernel
theorem d_MD_ask_82 : decode b_MD_ask 82 = .ok (.iload_n 1, 1) := by decide +kernel
theorem d_MD_ask_83 : decode b_MD_ask 83 = .ok (.iaload, 1) := by decide +kernel
theorem d_MD_ask_84 : decode b_MD_ask 84 = .ok (.iconst 1, 1) := by decide +kernel
theorem d_MD_ask_85 : decode b_MD_ask 85 = .ok (.if_icmp .ne 23, 3) := by decide +kernel
theorem d_MD_ask_88 : decode b_MD_ask 88 = .ok (.aload_n 0, 1) := by decide +kernel
theorem d_MD_ask_89 : decode b_MD_ask 89 = .ok (.iconst 1, 1) := by decide +kernel
theorem d_MD_ask_90 : decode b_MD_ask 90 = .ok (.iload_n 1, 1) := by decide +kernel
theorem d_MD_ask_91 : decode b_MD_ask 91 = .ok (.iload 5, 2) := by decide +kernel
theorem d_MD_ask_93 : decode b_MD_ask 93 = .ok (.iconst 0, 1) := by decide +kernel
theorem d_MD_ask_94 : decode b_MD_ask 94 = .ok (.iconst 0, 1) := by decide +kernel
theorem d_MD_ask_95 : decode b_MD_ask 95 = .ok (.aload_n 0, 1) := by decide +kernel
theorem d_MD_ask_96 : decode b_MD_ask 96 = .ok (.getfield 45, 3) := by decide +kernel
theorem d_MD_ask_99 : decode b_MD_ask 99 = .ok (.iload_n 1, 1) := by decide +kernel
theorem d_MD_ask_100 : decode b_MD_ask 100 = .ok (.iaload, 1) := by decide +kernel
theorem d_MD_ask_101 : decode b_MD_ask 101 = .ok (.iconst 0, 1) := by decide +kernel
theorem d_MD_ask_102 : decode b_MD_ask 102 = .ok (.invokevirtual 98, 3) := by decide +kernel
theorem d_MD_ask_105 : decode b_MD_ask 105 = .ok (.goto 72, 3) := by decide +kernel
theorem d_MD_ask_108 : decode b_MD_ask 108 = .ok (.aload_n 0, 1) := by decide +kernel
theorem d_MD_ask_109 : decode b_MD_ask 109 = .ok (.getfield 42, 3) := by decide +kernel
theorem d_MD_ask_112 : decode b_MD_ask 112 = .ok (.iload_n 1, 1) := by decide +kernel
theorem d_MD_ask_113 : decode b_MD_ask 113 = .ok (.iaload, 1) := by decide +kernel
theorem d_MD_ask_114 : decode b_MD_ask 114 = .ok (.iconst 2, 1) := by decide +kernel
theorem d_MD_ask_115 : decode b_MD_ask 115 = .ok (.if_icmp .ne 28, 3) := by decide +kernel
theorem d_MD_ask_118 : decode b_MD_ask 118 = .ok (.aload_n 0, 1) := by decide +kernel
theorem d_MD_ask_119 : decode b_MD_ask 119 = .ok (.iconst 2, 1) := by decide +kernel
theorem d_MD_ask_120 : decode b_MD_ask 120 = .ok (.iload_n 1, 1) := by decide +kernel
theorem d_MD_ask_121 : decode b_MD_ask 121 = .ok (.iload 5, 2) := by decide +kernel
theorem d_MD_ask_123 : decode b_MD_ask 123 = .ok (.aload_n 0, 1) := by decide +kernel
theorem d_MD_ask_124 : decode b_MD_ask 124 = .ok (.getfield 48, 3) := by decide +kernel
theorem d_MD_ask_127 : decode b_MD_ask 127 = .ok (.iload_n 1, 1) := by decide +kernel
theorem d_MD_ask_128 : decode b_MD_ask 128 = .ok (.iaload, 1) := by decide +kernel
theorem d_MD_ask_129 : decode b_MD_ask 129 = .ok (.iconst 0, 1) := by decide +kernel
theorem d_MD_ask_130 : decode b_MD_ask 130 = .ok (.aload_n 0, 1) := by decide +kernel
theorem d_MD_ask_131 : decode b_MD_ask 131 = .ok (.getfield 45, 3) := by decide +kernel
theorem d_MD_ask_134 : decode b_MD_ask 134 = .ok (.iload_n 1, 1) := by decide +kernel
theorem d_MD_ask_135 : decode b_MD_ask 135 = .ok (.iaload, 1) := by decide +kernel
theorem d_MD_ask_136 : decode b_MD_ask 136 = .ok (.iconst 0, 1) := by decide +kernel
theorem d_MD_ask_137 : decode b_MD_ask 137 = .ok (.invokevirtual 98, 3) := by decide +kernel
theorem d_MD_ask_140 : decode b_MD_ask 140 = .ok (.goto 37, 3) := by decide +kernel
theorem d_MD_ask_143 : decode b_MD_ask 143 = .ok (.aload_n 0, 1) := by decide +kernel
theorem d_MD_ask_144 : decode b_MD_ask 144 = .ok (.iconst 0, 1) := by decide +kernel
theorem d_MD_ask_145 : decode b_MD_ask 145 = .ok (.iload_n 1, 1) := by decide +kernel
theorem d_MD_ask_146 : decode b_MD_ask 146 = .ok (.iload 5, 2) := by decide +kernel
theorem d_MD_ask_148 : decode b_MD_ask 148 = .ok (.aload_n 0, 1) := by decide +kernel
theorem d_MD_ask_149 : decode b_MD_ask 149 = .ok (.getfield 48, 3) := by decide +kernel
theorem d_MD_ask_152 : decode b_MD_ask 152 = .ok (.iload_n 1, 1) := by decide +kernel
theorem d_MD_ask_153 : decode b_MD_ask 153 = .ok (.iaload, 1) := by decide +kernel
theorem d_MD_ask_154 : decode b_MD_ask 154 = .ok (.aload_n 0, 1) := by decide +kernel
theorem d_MD_ask_155 : decode b_MD_ask 155 = .ok (.getfield 54, 3) := by decide +kernel
theorem d_MD_ask_158 : decode b_MD_ask 158 = .ok (.iload_n 1, 1) := by decide +kernel
theorem d_MD_ask_159 : decode b_MD_ask 159 = .ok (.iaload, 1) := by decide +kernel
theorem d_MD_ask_160 : decode b_MD_ask 160 = .ok (.aload_n 0, 1) := by decide +kernel
theorem d_MD_ask_161 : decode b_MD_ask 161 = .ok (.getfield 45, 3) := by decide +kernel
theorem d_MD_ask_164 : decode b_MD_ask 164 = .ok (.iload_n 1, 1) := by decide +kernel
theorem d_MD_ask_165 : decode b_MD_ask 165 = .ok (.iaload, 1) := by decide +kernel
theorem d_MD_ask_166 : decode b_MD_ask 166 = .ok (.aload_n 0, 1) := by decide +kernel
theorem d_MD_ask_167 : decode b_MD_ask 167 = .ok (.getfield 48, 3) := by decide +kernel
theorem d_MD_ask_170 : decode b_MD_ask 170 = .ok (.iload_n 1, 1) := by decide +kernel
theorem d_MD_ask_171 : decode b_MD_ask 171 = .ok (.iaload, 1) := by decide +kernel
theorem d_MD_ask_172 : decode b_MD_ask 172 = .ok (.iconst 1, 1) := by decide +kernel
theorem d_MD_ask_173 : decode b_MD_ask 173 = .ok (.isub, 1) := by decide +kernel
theorem d_MD_ask_174 : decode b_MD_ask 174 = .ok (.invokevirtual 98, 3) := by decide +kernel
theorem d_MD_ask_177 : decode b_MD_ask 177 = .ok (.iinc 2 1, 3) := by decide +kernel
theorem d_MD_ask_180 : decode b_MD_ask 180 = .ok (.iinc 4 1, 3) := by decide +kernel
theorem d_MD_ask_183 : decode b_MD_ask 183 = .ok (.goto (-156), 3) := by decide +kernel
theorem d_MD_ask_186 : decode b_MD_ask 186 = .ok (.iload_n 2, 1) := by decide +kernel
theorem d_MD_ask_187 : decode b_MD_ask 187 = .ok (.ireturn, 1) := by decide +kernel
theorem d_MD_finish_0 : decode b_MD_finish 0 = .ok (.aload_n 0, 1) := by decide +kernel
theorem d_MD_finish_1 : decode b_MD_finish 1 = .ok (.getfield 115, 3) := by decide +kernel
theorem d_MD_finish_4 : decode b_MD_finish 4 = .ok (.iconst 1, 1) := by decide +kernel
theorem d_MD_finish_5 : decode b_MD_finish 5 = .ok (.if_icmp .ne 36, 3) := by decide +kernel
theorem d_MD_finish_8 : decode b_MD_finish 8 = .ok (.aload_n 0, 1) := by decide +kernel
theorem d_MD_finish_9 : decode b_MD_finish 9 = .ok (.getfield 118, 3) := by decide +kernel
theorem d_MD_finish_12 : decode b_MD_finish 12 = .ok (.aload_n 0, 1) := by decide +kernel
theorem d_MD_finish_13 : decode b_MD_finish 13 = .ok (.getfield 45, 3) := by decide +kernel
theorem d_MD_finish_16 : decode b_MD_finish 16 = .ok (.iload_n 1, 1) := by decide +kernel
theorem d_MD_finish_17 : decode b_MD_finish 17 = .ok (.iaload, 1) := by decide +kernel
theorem d_MD_finish_18 : decode b_MD_finish 18 = .ok (.if_icmp .ne 23, 3) := by decide +kernel
theorem d_MD_finish_21 : decode b_MD_finish 21 = .ok (.aload_n 0, 1) := by decide +kernel
theorem d_MD_finish_22 : decode b_MD_finish 22 = .ok (.iconst 2, 1) := by decide +kernel
theorem d_MD_finish_23 : decode b_MD_finish 23 = .ok (.putfield 115, 3) := by decide +kernel
theorem d_MD_finish_26 : decode b_MD_finish 26 = .ok (.aload_n 0, 1) := by decide +kernel
theorem d_MD_finish_27 : decode b_MD_finish 27 = .ok (.iload_n 2, 1) := by decide +kernel
theorem d_MD_finish_28 : decode b_MD_finish 28 = .ok (.putfield 26, 3) := by decide +kernel
theorem d_MD_finish_31 : decode b_MD_finish 31 = .ok (.aload_n 0, 1) := by decide +kernel
theorem d_MD_finish_32 : decode b_MD_finish 32 = .ok (.dup, 1) := by decide +kernel
theorem d_MD_finish_33 : decode b_MD_finish 33 = .ok (.getfield 118, 3) := by decide +kernel
theorem d_MD_finish_36 : decode b_MD_finish 36 = .ok (.iconst 1, 1) := by decide +kernel
theorem d_MD_finish_37 : decode b_MD_finish 37 = .ok (.iadd, 1) := by decide +kernel
theorem d_MD_finish_38 : decode b_MD_finish 38 = .ok (.putfield 118, 3) := by decide +kernel
theorem d_MD_finish_41 : decode b_MD_finish 41 = .ok (.aload_n 0, 1) := by decide +kernel
theorem d_MD_finish_42 : decode b_MD_finish 42 = .ok (.getfield 42, 3) := by decide +kernel
theorem d_MD_finish_45 : decode b_MD_finish 45 = .ok (.iload_n 1, 1) := by decide +kernel
theorem d_MD_finish_46 : decode b_MD_finish 46 = .ok (.aload_n 0, 1) := by decide +kernel
theorem d_MD_finish_47 : decode b_MD_finish 47 = .ok (.getfield 115, 3) := by decide +kernel
theorem d_MD_finish_50 : decode b_MD_finish 50 = .ok (.iconst 2, 1) := by decide +kernel
theorem d_MD_finish_51 : decode b_MD_finish 51 = .ok (.if_icmp .ne 7, 3) := by decide +kernel
theorem d_MD_finish_54 : decode b_MD_finish 54 = .ok (.iconst 4, 1) := by decide +kernel
theorem d_MD_finish_55 : decode b_MD_finish 55 = .ok (.goto 4, 3) := by decide +kernel
theorem d_MD_finish_58 : decode b_MD_finish 58 = .ok (.iconst 0, 1) := by decide +kernel
theorem d_MD_finish_59 : decode b_MD_finish 59 = .ok (.iastore, 1) := by decide +kernel
theorem d_MD_finish_60 : decode b_MD_finish 60 = .ok (.return_, 1) := by decide +kernel
theorem d_MD_readOn_0 : decode b_MD_readOn 0 = .ok (.iload_n 2, 1) := by decide +kernel
theorem d_MD_readOn_1 : decode b_MD_readOn 1 = .ok (.bipush 20, 2) := by decide +kernel
theorem d_MD_readOn_3 : decode b_MD_readOn 3 = .ok (.if_icmp .ne 12, 3) := by decide +kernel
theorem d_MD_readOn_6 : decode b_MD_readOn 6 = .ok (.aload_n 0, 1) := by decide +kernel
theorem d_MD_readOn_7 : decode b_MD_readOn 7 = .ok (.iload_n 1, 1) := by decide +kernel
theorem d_MD_readOn_8 : decode b_MD_readOn 8 = .ok (.iload_n 2, 1) := by decide +kernel
theorem d_MD_readOn_9 : decode b_MD_readOn 9 = .ok (.iconst 1, 1) := by decide +kernel
theorem d_MD_readOn_10 : decode b_MD_readOn 10 = .ok (.isub, 1) := by decide +kernel
theorem d_MD_readOn_11 : decode b_MD_readOn 11 = .ok (.invokevirtual 121, 3) := by decide +kernel
theorem d_MD_readOn_14 : decode b_MD_readOn 14 = .ok (.return_, 1) := by decide +kernel
theorem d_MD_readOn_15 : decode b_MD_readOn 15 = .ok (.aload_n 0, 1) := by decide +kernel
theorem d_MD_readOn_16 : decode b_MD_readOn 16 = .ok (.getfield 48, 3) := by decide +kernel
theorem d_MD_readOn_19 : decode b_MD_readOn 19 = .ok (.iload_n 1, 1) := by decide +kernel
theorem d_MD_readOn_20 : decode b_MD_readOn 20 = .ok (.iload_n 2, 1) := by decide +kernel
theorem d_MD_readOn_21 : decode b_MD_readOn 21 = .ok (.iastore, 1) := by decide +kernel
theorem d_MD_readOn_22 : decode b_MD_readOn 22 = .ok (.aload_n 0, 1) := by decide +kernel
theorem d_MD_readOn_23 : decode b_MD_readOn 23 = .ok (.iload_n 1, 1) := by decide +kernel
theorem d_MD_readOn_24 : decode b_MD_readOn 24 = .ok (.invokevirtual 125, 3) := by decide +kernel
theorem d_MD_readOn_27 : decode b_MD_readOn 27 = .ok (.aload_n 0, 1) := by decide +kernel
theorem d_MD_readOn_28 : decode b_MD_readOn 28 = .ok (.getfield 42, 3) := by decide +kernel
theorem d_MD_readOn_31 : decode b_MD_readOn 31 = .ok (.iload_n 1, 1) := by decide +kernel
theorem d_MD_readOn_32 : decode b_MD_readOn 32 = .ok (.iconst 2, 1) := by decide +kernel
theorem d_MD_readOn_33 : decode b_MD_readOn 33 = .ok (.iastore, 1) := by decide +kernel
theorem d_MD_readOn_34 : decode b_MD_readOn 34 = .ok (.aload_n 0, 1) := by decide +kernel
theorem d_MD_readOn_35 : decode b_MD_readOn 35 = .ok (.iload_n 1, 1) := by decide +kernel
theorem d_MD_readOn_36 : decode b_MD_readOn 36 = .ok (.invokevirtual 128, 3) := by decide +kernel
theorem d_MD_readOn_39 : decode b_MD_readOn 39 = .ok (.istore_n 3, 1) := by decide +kernel
theorem d_MD_readOn_40 : decode b_MD_readOn 40 = .ok (.return_, 1) := by decide +kernel
theorem d_MD_covers_0 : decode b_MD_covers 0 = .ok (.iconst 1, 1) := by decide +kernel
theorem d_MD_covers_1 : decode b_MD_covers 1 = .ok (.istore_n 2, 1) := by decide +kernel
theorem d_MD_covers_2 : decode b_MD_covers 2 = .ok (.iconst 0, 1) := by decide +kernel
theorem d_MD_covers_3 : decode b_MD_covers 3 = .ok (.istore_n 3, 1) := by decide +kernel
theorem d_MD_covers_4 : decode b_MD_covers 4 = .ok (.iload_n 3, 1) := by decide +kernel
theorem d_MD_covers_5 : decode b_MD_covers 5 = .ok (.aload_n 0, 1) := by decide +kernel
theorem d_MD_covers_6 : decode b_MD_covers 6 = .ok (.getfield 60, 3) := by decide +kernel
theorem d_MD_covers_9 : decode b_MD_covers 9 = .ok (.if_icmp .ge 80, 3) := by decide +kernel
theorem d_MD_covers_12 : decode b_MD_covers 12 = .ok (.iconst 0, 1) := by decide +kernel
theorem d_MD_covers_13 : decode b_MD_covers 13 = .ok (.istore 4, 2) := by decide +kernel
theorem d_MD_covers_15 : decode b_MD_covers 15 = .ok (.iconst 0, 1) := by decide +kernel
theorem d_MD_covers_16 : decode b_MD_covers 16 = .ok (.istore 5, 2) := by decide +kernel
theorem d_MD_covers_18 : decode b_MD_covers 18 = .ok (.iload 5, 2) := by decide +kernel
theorem d_MD_covers_20 : decode b_MD_covers 20 = .ok (.aload_n 0, 1) := by decide +kernel
theorem d_MD_covers_21 : decode b_MD_covers 21 = .ok (.getfield 63, 3) := by decide +kernel
theorem d_MD_covers_24 : decode b_MD_covers 24 = .ok (.if_icmp .ge 40, 3) := by decide +kernel
theorem d_MD_covers_27 : decode b_MD_covers 27 = .ok (.iload 4, 2) := by decide +kernel
theorem d_MD_covers_29 : decode b_MD_covers 29 = .ok (.aload_n 0, 1) := by decide +kernel
theorem d_MD_covers_30 : decode b_MD_covers 30 = .ok (.getfield 57, 3) := by decide +kernel
theorem d_MD_covers_33 : decode b_MD_covers 33 = .ok (.iconst 5, 1) := by decide +kernel
theorem d_MD_covers_34 : decode b_MD_covers 34 = .ok (.iload_n 1, 1) := by decide +kernel
theorem d_MD_covers_35 : decode b_MD_covers 35 = .ok (.imul, 1) := by decide +kernel
theorem d_MD_covers_36 : decode b_MD_covers 36 = .ok (.iload_n 3, 1) := by decide +kernel
theorem d_MD_covers_37 : decode b_MD_covers 37 = .ok (.iload 5, 2) := by decide +kernel
theorem d_MD_covers_39 : decode b_MD_covers 39 = .ok (.iadd, 1) := by decide +kernel
theorem d_MD_covers_40 : decode b_MD_covers 40 = .ok (.aload_n 0, 1) := by decide +kernel
theorem d_MD_covers_41 : decode b_MD_covers 41 = .ok (.getfield 60, 3) := by decide +kernel
theorem d_MD_covers_44 : decode b_MD_covers 44 = .ok (.irem, 1) := by decide +kernel
theorem d_MD_covers_45 : decode b_MD_covers 45 = .ok (.iadd, 1) := by decide +kernel
theorem d_MD_covers_46 : decode b_MD_covers 46 = .ok (.baload, 1) := by decide +kernel
theorem d_MD_covers_47 : decode b_MD_covers 47 = .ok (.ifCond .eq 7, 3) := by decide +kernel
theorem d_MD_covers_50 : decode b_MD_covers 50 = .ok (.iconst 0, 1) := by decide +kernel
theorem d_MD_covers_51 : decode b_MD_covers 51 = .ok (.goto 4, 3) := by decide +kernel
theorem d_MD_covers_54 : decode b_MD_covers 54 = .ok (.iconst 1, 1) := by decide +kernel
theorem d_MD_covers_55 : decode b_MD_covers 55 = .ok (.iadd, 1) := by decide +kernel
theorem d_MD_covers_56 : decode b_MD_covers 56 = .ok (.istore 4, 2) := by decide +kernel
theorem d_MD_covers_58 : decode b_MD_covers 58 = .ok (.iinc 5 1, 3) := by decide +kernel
theorem d_MD_covers_61 : decode b_MD_covers 61 = .ok (.goto (-43), 3) := by decide +kernel
theorem d_MD_covers_64 : decode b_MD_covers 64 = .ok (.iload_n 2, 1) := by decide +kernel
theorem d_MD_covers_65 : decode b_MD_covers 65 = .ok (.ifCond .eq 16, 3) := by decide +kernel
theorem d_MD_covers_68 : decode b_MD_covers 68 = .ok (.iload 4, 2) := by decide +kernel
theorem d_MD_covers_70 : decode b_MD_covers 70 = .ok (.aload_n 0, 1) := by decide +kernel
theorem d_MD_covers_71 : decode b_MD_covers 71 = .ok (.getfield 66, 3) := by decide +kernel
theorem d_MD_covers_74 : decode b_MD_covers 74 = .ok (.if_icmp .ge 7, 3) := by decide +kernel
theorem d_MD_covers_77 : decode b_MD_covers 77 = .ok (.iconst 1, 1) := by decide +kernel
theorem d_MD_covers_78 : decode b_MD_covers 78 = .ok (.goto 4, 3) := by decide +kernel
theorem d_MD_covers_81 : decode b_MD_covers 81 = .ok (.iconst 0, 1) := by decide +kernel
theorem d_MD_covers_82 : decode b_MD_covers 82 = .ok (.istore_n 2, 1) := by decide +kernel
theorem d_MD_covers_83 : decode b_MD_covers 83 = .ok (.iinc 3 1, 3) := by decide +kernel
theorem d_MD_covers_86 : decode b_MD_covers 86 = .ok (.goto (-82), 3) := by decide +kernel
theorem d_MD_covers_89 : decode b_MD_covers 89 = .ok (.iload_n 2, 1) := by decide +kernel
theorem d_MD_covers_90 : decode b_MD_covers 90 = .ok (.ireturn, 1) := by decide +kernel
theorem d_MD_learns_0 : decode b_MD_learns 0 = .ok (.iconst 5, 1) := by decide +kernel
theorem d_MD_learns_1 : decode b_MD_learns 1 = .ok (.iload_n 2, 1) := by decide +kernel
theorem d_MD_learns_2 : decode b_MD_learns 2 = .ok (.imul, 1) := by decide +kernel
theorem d_MD_learns_3 : decode b_MD_learns 3 = .ok (.iload_n 3, 1) := by decide +kernel
theorem d_MD_learns_4 : decode b_MD_learns 4 = .ok (.iadd, 1) := by decide +kernel
theorem d_MD_learns_5 : decode b_MD_learns 5 = .ok (.istore 6, 2) := by decide +kernel
theorem d_MD_learns_7 : decode b_MD_learns 7 = .ok (.iload_n 1, 1) := by decide +kernel
theorem d_MD_learns_8 : decode b_MD_learns 8 = .ok (.iconst 5, 1) := by decide +kernel
theorem d_MD_learns_9 : decode b_MD_learns 9 = .ok (.if_icmp .ne 73, 3) := by decide +kernel
theorem d_MD_learns_12 : decode b_MD_learns 12 = .ok (.aload_n 0, 1) := by decide +kernel
theorem d_MD_learns_13 : decode b_MD_learns 13 = .ok (.getfield 42, 3) := by decide +kernel
theorem d_MD_learns_16 : decode b_MD_learns 16 = .ok (.iload_n 2, 1) := by decide +kernel
theorem d_MD_learns_17 : decode b_MD_learns 17 = .ok (.iaload, 1) := by decide +kernel
theorem d_MD_learns_18 : decode b_MD_learns 18 = .ok (.iconst 1, 1) := by decide +kernel
theorem d_MD_learns_19 : decode b_MD_learns 19 = .ok (.if_icmp .ne 63, 3) := by decide +kernel
theorem d_MD_learns_22 : decode b_MD_learns 22 = .ok (.aload_n 0, 1) := by decide +kernel
theorem d_MD_learns_23 : decode b_MD_learns 23 = .ok (.getfield 57, 3) := by decide +kernel
theorem d_MD_learns_26 : decode b_MD_learns 26 = .ok (.iload 6, 2) := by decide +kernel
theorem d_MD_learns_28 : decode b_MD_learns 28 = .ok (.iconst 1, 1) := by decide +kernel
theorem d_MD_learns_29 : decode b_MD_learns 29 = .ok (.bastore, 1) := by decide +kernel
theorem d_MD_learns_30 : decode b_MD_learns 30 = .ok (.aload_n 0, 1) := by decide +kernel
theorem d_MD_learns_31 : decode b_MD_learns 31 = .ok (.getfield 51, 3) := by decide +kernel
theorem d_MD_learns_34 : decode b_MD_learns 34 = .ok (.iload_n 2, 1) := by decide +kernel
theorem d_MD_learns_35 : decode b_MD_learns 35 = .ok (.iload 5, 2) := by decide +kernel
theorem d_MD_learns_37 : decode b_MD_learns 37 = .ok (.aload_n 0, 1) := by decide +kernel
theorem d_MD_learns_38 : decode b_MD_learns 38 = .ok (.getfield 51, 3) := by decide +kernel
theorem d_MD_learns_41 : decode b_MD_learns 41 = .ok (.iload_n 2, 1) := by decide +kernel
theorem d_MD_learns_42 : decode b_MD_learns 42 = .ok (.iaload, 1) := by decide +kernel
theorem d_MD_learns_43 : decode b_MD_learns 43 = .ok (.if_icmp .le 8, 3) := by decide +kernel
theorem d_MD_learns_46 : decode b_MD_learns 46 = .ok (.iload 5, 2) := by decide +kernel
theorem d_MD_learns_48 : decode b_MD_learns 48 = .ok (.goto 9, 3) := by decide +kernel
theorem d_MD_learns_51 : decode b_MD_learns 51 = .ok (.aload_n 0, 1) := by decide +kernel
theorem d_MD_learns_52 : decode b_MD_learns 52 = .ok (.getfield 51, 3) := by decide +kernel
theorem d_MD_learns_55 : decode b_MD_learns 55 = .ok (.iload_n 2, 1) := by decide +kernel
theorem d_MD_learns_56 : decode b_MD_learns 56 = .ok (.iaload, 1) := by decide +kernel
theorem d_MD_learns_57 : decode b_MD_learns 57 = .ok (.iastore, 1) := by decide +kernel
theorem d_MD_learns_58 : decode b_MD_learns 58 = .ok (.aload_n 0, 1) := by decide +kernel
theorem d_MD_learns_59 : decode b_MD_learns 59 = .ok (.iload_n 2, 1) := by decide +kernel
theorem d_MD_learns_60 : decode b_MD_learns 60 = .ok (.invokevirtual 131, 3) := by decide +kernel
theorem d_MD_learns_63 : decode b_MD_learns 63 = .ok (.ifCond .eq 201, 3) := by decide +kernel
theorem d_MD_learns_66 : decode b_MD_learns 66 = .ok (.aload_n 0, 1) := by decide +kernel
theorem d_MD_learns_67 : decode b_MD_learns 67 = .ok (.iload_n 2, 1) := by decide +kernel
theorem d_MD_learns_68 : decode b_MD_learns 68 = .ok (.aload_n 0, 1) := by decide +kernel
theorem d_MD_learns_69 : decode b_MD_learns 69 = .ok (.getfield 51, 3) := by decide +kernel
theorem d_MD_learns_72 : decode b_MD_learns 72 = .ok (.iload_n 2, 1) := by decide +kernel
theorem d_MD_learns_73 : decode b_MD_learns 73 = .ok (.iaload, 1) := by decide +kernel
theorem d_MD_learns_74 : decode b_MD_learns 74 = .ok (.iconst 1, 1) := by decide +kernel
theorem d_MD_learns_75 : decode b_MD_learns 75 = .ok (.iadd, 1) := by decide +kernel
theorem d_MD_learns_76 : decode b_MD_learns 76 = .ok (.invokevirtual 134, 3) := by decide +kernel
theorem d_MD_learns_79 : decode b_MD_learns 79 = .ok (.goto 185, 3) := by decide +kernel
theorem d_MD_learns_82 : decode b_MD_learns 82 = .ok (.iload_n 1, 1) := by decide +kernel
theorem d_MD_learns_83 : decode b_MD_learns 83 = .ok (.bipush 6, 2) := by decide +kernel
theorem d_MD_learns_85 : decode b_MD_learns 85 = .ok (.if_icmp .ne 54, 3) := by decide +kernel
theorem d_MD_learns_88 : decode b_MD_learns 88 = .ok (.aload_n 0, 1) := by decide +kernel
theorem d_MD_learns_89 : decode b_MD_learns 89 = .ok (.getfield 42, 3) := by decide +kernel
theorem d_MD_learns_92 : decode b_MD_learns 92 = .ok (.iload_n 2, 1) := by decide +kernel
theorem d_MD_learns_93 : decode b_MD_learns 93 = .ok (.iaload, 1) := by decide +kernel
theorem d_MD_learns_94 : decode b_MD_learns 94 = .ok (.iconst 2, 1) := by decide +kernel
theorem d_MD_learns_95 : decode b_MD_learns 95 = .ok (.if_icmp .ne 44, 3) := by decide +kernel
theorem d_MD_learns_98 : decode b_MD_learns 98 = .ok (.iload 4, 2) := by decide +kernel
theorem d_MD_learns_100 : decode b_MD_learns 100 = .ok (.aload_n 0, 1) := by decide +kernel
theorem d_MD_learns_101 : decode b_MD_learns 101 = .ok (.getfield 48, 3) := by decide +kernel
theorem d_MD_learns_104 : decode b_MD_learns 104 = .ok (.iload_n 2, 1) := by decide +kernel
theorem d_MD_learns_105 : decode b_MD_learns 105 = .ok (.iaload, 1) := by decide +kernel
theorem d_MD_learns_106 : decode b_MD_learns 106 = .ok (.if_icmp .ne 33, 3) := by decide +kernel
theorem d_MD_learns_109 : decode b_MD_learns 109 = .ok (.aload_n 0, 1) := by decide +kernel
theorem d_MD_learns_110 : decode b_MD_learns 110 = .ok (.getfield 42, 3) := by decide +kernel
theorem d_MD_learns_113 : decode b_MD_learns 113 = .ok (.iload_n 2, 1) := by decide +kernel
theorem d_MD_learns_114 : decode b_MD_learns 114 = .ok (.iconst 3, 1) := by decide +kernel
theorem d_MD_learns_115 : decode b_MD_learns 115 = .ok (.iastore, 1) := by decide +kernel
theorem d_MD_learns_116 : decode b_MD_learns 116 = .ok (.aload_n 0, 1) := by decide +kernel
theorem d_MD_learns_117 : decode b_MD_learns 117 = .ok (.getfield 54, 3) := by decide +kernel
theorem d_MD_learns_120 : decode b_MD_learns 120 = .ok (.iload_n 2, 1) := by decide +kernel
theorem d_MD_learns_121 : decode b_MD_learns 121 = .ok (.iload 5, 2) := by decide +kernel
theorem d_MD_learns_123 : decode b_MD_learns 123 = .ok (.iastore, 1) := by decide +kernel
theorem d_MD_learns_124 : decode b_MD_learns 124 = .ok (.aload_n 0, 1) := by decide +kernel
theorem d_MD_learns_125 : decode b_MD_learns 125 = .ok (.iload_n 2, 1) := by decide +kernel
theorem d_MD_learns_126 : decode b_MD_learns 126 = .ok (.invokevirtual 125, 3) := by decide +kernel
theorem d_MD_learns_129 : decode b_MD_learns 129 = .ok (.aload_n 0, 1) := by decide +kernel
theorem d_MD_learns_130 : decode b_MD_learns 130 = .ok (.iload_n 2, 1) := by decide +kernel
theorem d_MD_learns_131 : decode b_MD_learns 131 = .ok (.invokevirtual 128, 3) := by decide +kernel
theorem d_MD_learns_134 : decode b_MD_learns 134 = .ok (.istore 7, 2) := by decide +kernel
theorem d_MD_learns_136 : decode b_MD_learns 136 = .ok (.goto 128, 3) := by decide +kernel
theorem d_MD_learns_139 : decode b_MD_learns 139 = .ok (.iload_n 1, 1) := by decide +kernel
theorem d_MD_learns_140 : decode b_MD_learns 140 = .ok (.bipush 7, 2) := by decide +kernel
theorem d_MD_learns_142 : decode b_MD_learns 142 = .ok (.if_icmp .ne 67, 3) := by decide +kernel
theorem d_MD_learns_145 : decode b_MD_learns 145 = .ok (.aload_n 0, 1) := by decide +kernel
theorem d_MD_learns_146 : decode b_MD_learns 146 = .ok (.getfield 42, 3) := by decide +kernel
theorem d_MD_learns_149 : decode b_MD_learns 149 = .ok (.iload_n 2, 1) := by decide +kernel
theorem d_MD_learns_150 : decode b_MD_learns 150 = .ok (.iaload, 1) := by decide +kernel
theorem d_MD_learns_151 : decode b_MD_learns 151 = .ok (.iconst 2, 1) := by decide +kernel
theorem d_MD_learns_152 : decode b_MD_learns 152 = .ok (.if_icmp .ne 57, 3) := by decide +kernel
theorem d_MD_learns_155 : decode b_MD_learns 155 = .ok (.iload 4, 2) := by decide +kernel
theorem d_MD_learns_157 : decode b_MD_learns 157 = .ok (.aload_n 0, 1) := by decide +kernel
theorem d_MD_learns_158 : decode b_MD_learns 158 = .ok (.getfield 48, 3) := by decide +kernel
theorem d_MD_learns_161 : decode b_MD_learns 161 = .ok (.iload_n 2, 1) := by decide +kernel
theorem d_MD_learns_162 : decode b_MD_learns 162 = .ok (.iaload, 1) := by decide +kernel
theorem d_MD_learns_163 : decode b_MD_learns 163 = .ok (.if_icmp .ne 46, 3) := by decide +kernel
theorem d_MD_learns_166 : decode b_MD_learns 166 = .ok (.aload_n 0, 1) := by decide +kernel
theorem d_MD_learns_167 : decode b_MD_learns 167 = .ok (.getfield 57, 3) := by decide +kernel
theorem d_MD_learns_170 : decode b_MD_learns 170 = .ok (.iload 6, 2) := by decide +kernel
theorem d_MD_learns_172 : decode b_MD_learns 172 = .ok (.iconst 1, 1) := by decide +kernel
theorem d_MD_learns_173 : decode b_MD_learns 173 = .ok (.bastore, 1) := by decide +kernel
theorem d_MD_learns_174 : decode b_MD_learns 174 = .ok (.aload_n 0, 1) := by decide +kernel
theorem d_MD_learns_175 : decode b_MD_learns 175 = .ok (.iload_n 2, 1) := by decide +kernel
theorem d_MD_learns_176 : decode b_MD_learns 176 = .ok (.invokevirtual 137, 3) := by decide +kernel
theorem d_MD_learns_179 : decode b_MD_learns 179 = .ok (.aload_n 0, 1) := by decide +kernel
theorem d_MD_learns_180 : decode b_MD_learns 180 = .ok (.getfield 63, 3) := by decide +kernel
theorem d_MD_learns_183 : decode b_MD_learns 183 = .ok (.aload_n 0, 1) := by decide +kernel
theorem d_MD_learns_184 : decode b_MD_learns 184 = .ok (.getfield 66, 3) := by decide +kernel
theorem d_MD_learns_187 : decode b_MD_learns 187 = .ok (.isub, 1) := by decide +kernel
theorem d_MD_learns_188 : decode b_MD_learns 188 = .ok (.iconst 1, 1) := by decide +kernel
theorem d_MD_learns_189 : decode b_MD_learns 189 = .ok (.iadd, 1) := by decide +kernel
theorem d_MD_learns_190 : decode b_MD_learns 190 = .ok (.if_icmp .lt 74, 3) := by decide +kernel
theorem d_MD_learns_193 : decode b_MD_learns 193 = .ok (.aload_n 0, 1) := by decide +kernel
theorem d_MD_learns_194 : decode b_MD_learns 194 = .ok (.iload_n 2, 1) := by decide +kernel
theorem d_MD_learns_195 : decode b_MD_learns 195 = .ok (.aload_n 0, 1) := by decide +kernel
theorem d_MD_learns_196 : decode b_MD_learns 196 = .ok (.getfield 48, 3) := by decide +kernel
theorem d_MD_learns_199 : decode b_MD_learns 199 = .ok (.iload_n 2, 1) := by decide +kernel
theorem d_MD_learns_200 : decode b_MD_learns 200 = .ok (.iaload, 1) := by decide +kernel
theorem d_MD_learns_201 : decode b_MD_learns 201 = .ok (.iconst 1, 1) := by decide +kernel
theorem d_MD_learns_202 : decode b_MD_learns 202 = .ok (.isub, 1) := by decide +kernel
theorem d_MD_learns_203 : decode b_MD_learns 203 = .ok (.invokevirtual 121, 3) := by decide +kernel
theorem d_MD_learns_206 : decode b_MD_learns 206 = .ok (.goto 58, 3) := by decide +kernel
theorem d_MD_learns_209 : decode b_MD_learns 209 = .ok (.iload_n 1, 1) := by decide +kernel
theorem d_MD_learns_210 : decode b_MD_learns 210 = .ok (.iconst 3, 1) := by decide +kernel
theorem d_MD_learns_211 : decode b_MD_learns 211 = .ok (.if_icmp .ne 53, 3) := by decide +kernel
theorem d_MD_learns_214 : decode b_MD_learns 214 = .ok (.aload_n 0, 1) := by decide +kernel
theorem d_MD_learns_215 : decode b_MD_learns 215 = .ok (.getfield 42, 3) := by decide +kernel
theorem d_MD_learns_218 : decode b_MD_learns 218 = .ok (.iload_n 2, 1) := by decide +kernel
theorem d_MD_learns_219 : decode b_MD_learns 219 = .ok (.iaload, 1) := by decide +kernel
theorem d_MD_learns_220 : decode b_MD_learns 220 = .ok (.iconst 3, 1) := by decide +kernel
theorem d_MD_learns_221 : decode b_MD_learns 221 = .ok (.if_icmp .ne 43, 3) := by decide +kernel
theorem d_MD_learns_224 : decode b_MD_learns 224 = .ok (.iload 4, 2) := by decide +kernel
theorem d_MD_learns_226 : decode b_MD_learns 226 = .ok (.aload_n 0, 1) := by decide +kernel
theorem d_MD_learns_227 : decode b_MD_learns 227 = .ok (.getfield 48, 3) := by decide +kernel
theorem d_MD_learns_230 : decode b_MD_learns 230 = .ok (.iload_n 2, 1) := by decide +kernel
theorem d_MD_learns_231 : decode b_MD_learns 231 = .ok (.iaload, 1) := by decide +kernel
theorem d_MD_learns_232 : decode b_MD_learns 232 = .ok (.if_icmp .ne 32, 3) := by decide +kernel
theorem d_MD_learns_235 : decode b_MD_learns 235 = .ok (.aload_n 0, 1) := by decide +kernel
theorem d_MD_learns_236 : decode b_MD_learns 236 = .ok (.getfield 57, 3) := by decide +kernel
theorem d_MD_learns_239 : decode b_MD_learns 239 = .ok (.iload 6, 2) := by decide +kernel
theorem d_MD_learns_241 : decode b_MD_learns 241 = .ok (.iconst 1, 1) := by decide +kernel
theorem d_MD_learns_242 : decode b_MD_learns 242 = .ok (.bastore, 1) := by decide +kernel
theorem d_MD_learns_243 : decode b_MD_learns 243 = .ok (.aload_n 0, 1) := by decide +kernel
theorem d_MD_learns_244 : decode b_MD_learns 244 = .ok (.iload_n 2, 1) := by decide +kernel
theorem d_MD_learns_245 : decode b_MD_learns 245 = .ok (.invokevirtual 137, 3) := by decide +kernel
theorem d_MD_learns_248 : decode b_MD_learns 248 = .ok (.aload_n 0, 1) := by decide +kernel
theorem d_MD_learns_249 : decode b_MD_learns 249 = .ok (.getfield 66, 3) := by decide +kernel
theorem d_MD_learns_252 : decode b_MD_learns 252 = .ok (.if_icmp .lt 12, 3) := by decide +kernel
theorem d_MD_learns_255 : decode b_MD_learns 255 = .ok (.aload_n 0, 1) := by decide +kernel
theorem d_MD_learns_256 : decode b_MD_learns 256 = .ok (.iload_n 2, 1) := by decide +kernel
theorem d_MD_learns_257 : decode b_MD_learns 257 = .ok (.iload 4, 2) := by decide +kernel
theorem d_MD_learns_259 : decode b_MD_learns 259 = .ok (.iconst 1, 1) := by decide +kernel
theorem d_MD_learns_260 : decode b_MD_learns 260 = .ok (.iadd, 1) := by decide +kernel
theorem d_MD_learns_261 : decode b_MD_learns 261 = .ok (.invokevirtual 134, 3) := by decide +kernel
theorem d_MD_learns_264 : decode b_MD_learns 264 = .ok (.return_, 1) := by decide +kernel
theorem d_MD_ackCount_0 : decode b_MD_ackCount 0 = .ok (.iconst 0, 1) := by decide +kernel
theorem d_MD_ackCount_1 : decode b_MD_ackCount 1 = .ok (.istore_n 2, 1) := by decide +kernel
theorem d_MD_ackCount_2 : decode b_MD_ackCount 2 = .ok (.iconst 0, 1) := by decide +kernel
theorem d_MD_ackCount_3 : decode b_MD_ackCount 3 = .ok (.istore_n 3, 1) := by decide +kernel
theorem d_MD_ackCount_4 : decode b_MD_ackCount 4 = .ok (.iload_n 3, 1) := by decide +kernel
theorem d_MD_ackCount_5 : decode b_MD_ackCount 5 = .ok (.aload_n 0, 1) := by decide +kernel
theorem d_MD_ackCount_6 : decode b_MD_ackCount 6 = .ok (.getfield 60, 3) := by decide +kernel
theorem d_MD_ackCount_9 : decode b_MD_ackCount 9 = .ok (.if_icmp .ge 31, 3) := by decide +kernel
theorem d_MD_ackCount_12 : decode b_MD_ackCount 12 = .ok (.iload_n 2, 1) := by decide +kernel
theorem d_MD_ackCount_13 : decode b_MD_ackCount 13 = .ok (.aload_n 0, 1) := by decide +kernel
theorem d_MD_ackCount_14 : decode b_MD_ackCount 14 = .ok (.getfield 39, 3) := by decide +kernel
theorem d_MD_ackCount_17 : decode b_MD_ackCount 17 = .ok (.bipush 20, 2) := by decide +kernel
theorem d_MD_ackCount_19 : decode b_MD_ackCount 19 = .ok (.iload_n 3, 1) := by decide +kernel
theorem d_MD_ackCount_20 : decode b_MD_ackCount 20 = .ok (.imul, 1) := by decide +kernel
theorem d_MD_ackCount_21 : decode b_MD_ackCount 21 = .ok (.iload_n 1, 1) := by decide +kernel
theorem d_MD_ackCount_22 : decode b_MD_ackCount 22 = .ok (.iadd, 1) := by decide +kernel
theorem d_MD_ackCount_23 : decode b_MD_ackCount 23 = .ok (.baload, 1) := by decide +kernel
theorem d_MD_ackCount_24 : decode b_MD_ackCount 24 = .ok (.ifCond .eq 7, 3) := by decide +kernel
theorem d_MD_ackCount_27 : decode b_MD_ackCount 27 = .ok (.iconst 1, 1) := by decide +kernel
theorem d_MD_ackCount_28 : decode b_MD_ackCount 28 = .ok (.goto 4, 3) := by decide +kernel
theorem d_MD_ackCount_31 : decode b_MD_ackCount 31 = .ok (.iconst 0, 1) := by decide +kernel
theorem d_MD_ackCount_32 : decode b_MD_ackCount 32 = .ok (.iadd, 1) := by decide +kernel
theorem d_MD_ackCount_33 : decode b_MD_ackCount 33 = .ok (.istore_n 2, 1) := by decide +kernel
theorem d_MD_ackCount_34 : decode b_MD_ackCount 34 = .ok (.iinc 3 1, 3) := by decide +kernel
theorem d_MD_ackCount_37 : decode b_MD_ackCount 37 = .ok (.goto (-33), 3) := by decide +kernel
theorem d_MD_ackCount_40 : decode b_MD_ackCount 40 = .ok (.iload_n 2, 1) := by decide +kernel
theorem d_MD_ackCount_41 : decode b_MD_ackCount 41 = .ok (.ireturn, 1) := by decide +kernel
theorem d_MD_hears_0 : decode b_MD_hears 0 = .ok (.aload_n 0, 1) := by decide +kernel
theorem d_MD_hears_1 : decode b_MD_hears 1 = .ok (.getfield 102, 3) := by decide +kernel
theorem d_MD_hears_4 : decode b_MD_hears 4 = .ok (.ifCond .eq 4, 3) := by decide +kernel
theorem d_MD_hears_7 : decode b_MD_hears 7 = .ok (.return_, 1) := by decide +kernel
theorem d_MD_hears_8 : decode b_MD_hears 8 = .ok (.iload_n 1, 1) := by decide +kernel
theorem d_MD_hears_9 : decode b_MD_hears 9 = .ok (.iconst 4, 1) := by decide +kernel
theorem d_MD_hears_10 : decode b_MD_hears 10 = .ok (.if_icmp .ne 8, 3) := by decide +kernel
theorem d_MD_hears_13 : decode b_MD_hears 13 = .ok (.aload_n 0, 1) := by decide +kernel
theorem d_MD_hears_14 : decode b_MD_hears 14 = .ok (.iconst 1, 1) := by decide +kernel
theorem d_MD_hears_15 : decode b_MD_hears 15 = .ok (.putfield 102, 3) := by decide +kernel
theorem d_MD_hears_18 : decode b_MD_hears 18 = .ok (.iload_n 1, 1) := by decide +kernel
theorem d_MD_hears_19 : decode b_MD_hears 19 = .ok (.iconst 3, 1) := by decide +kernel
theorem d_MD_hears_20 : decode b_MD_hears 20 = .ok (.if_icmp .eq 4, 3) := by decide +kernel
theorem d_MD_hears_23 : decode b_MD_hears 23 = .ok (.return_, 1) := by decide +kernel
theorem d_MD_hears_24 : decode b_MD_hears 24 = .ok (.aload_n 0, 1) := by decide +kernel
theorem d_MD_hears_25 : decode b_MD_hears 25 = .ok (.getfield 39, 3) := by decide +kernel
theorem d_MD_hears_28 : decode b_MD_hears 28 = .ok (.bipush 20, 2) := by decide +kernel
theorem d_MD_hears_30 : decode b_MD_hears 30 = .ok (.iload_n 2, 1) := by decide +kernel
theorem d_MD_hears_31 : decode b_MD_hears 31 = .ok (.imul, 1) := by decide +kernel
theorem d_MD_hears_32 : decode b_MD_hears 32 = .ok (.iload_n 3, 1) := by decide +kernel
theorem d_MD_hears_33 : decode b_MD_hears 33 = .ok (.iadd, 1) := by decide +kernel
theorem d_MD_hears_34 : decode b_MD_hears 34 = .ok (.iconst 1, 1) := by decide +kernel
theorem d_MD_hears_35 : decode b_MD_hears 35 = .ok (.bastore, 1) := by decide +kernel
theorem d_MD_hears_36 : decode b_MD_hears 36 = .ok (.iconst 1, 1) := by decide +kernel
theorem d_MD_hears_37 : decode b_MD_hears 37 = .ok (.istore 4, 2) := by decide +kernel
theorem d_MD_hears_39 : decode b_MD_hears 39 = .ok (.iconst 0, 1) := by decide +kernel
theorem d_MD_hears_40 : decode b_MD_hears 40 = .ok (.istore 5, 2) := by decide +kernel
theorem d_MD_hears_42 : decode b_MD_hears 42 = .ok (.iload 5, 2) := by decide +kernel
theorem d_MD_hears_44 : decode b_MD_hears 44 = .ok (.bipush 20, 2) := by decide +kernel
theorem d_MD_hears_46 : decode b_MD_hears 46 = .ok (.if_icmp .ge 87, 3) := by decide +kernel
theorem d_MD_hears_49 : decode b_MD_hears 49 = .ok (.iload 4, 2) := by decide +kernel
theorem d_MD_hears_51 : decode b_MD_hears 51 = .ok (.ifCond .eq 82, 3) := by decide +kernel
theorem d_MD_hears_54 : decode b_MD_hears 54 = .ok (.aload_n 0, 1) := by decide +kernel
theorem d_MD_hears_55 : decode b_MD_hears 55 = .ok (.getfield 33, 3) := by decide +kernel
theorem d_MD_hears_58 : decode b_MD_hears 58 = .ok (.iconst 1, 1) := by decide +kernel
theorem d_MD_hears_59 : decode b_MD_hears 59 = .ok (.iadd, 1) := by decide +kernel
theorem d_MD_hears_60 : decode b_MD_hears 60 = .ok (.aload_n 0, 1) := by decide +kernel
theorem d_MD_hears_61 : decode b_MD_hears 61 = .ok (.getfield 105, 3) := by decide +kernel
theorem d_MD_hears_64 : decode b_MD_hears 64 = .ok (.if_icmp .ge 41, 3) := by decide +kernel
theorem d_MD_hears_67 : decode b_MD_hears 67 = .ok (.aload_n 0, 1) := by decide +kernel
theorem d_MD_hears_68 : decode b_MD_hears 68 = .ok (.aload_n 0, 1) := by decide +kernel
theorem d_MD_hears_69 : decode b_MD_hears 69 = .ok (.getfield 33, 3) := by decide +kernel
theorem d_MD_hears_72 : decode b_MD_hears 72 = .ok (.iconst 1, 1) := by decide +kernel
theorem d_MD_hears_73 : decode b_MD_hears 73 = .ok (.iadd, 1) := by decide +kernel
theorem d_MD_hears_74 : decode b_MD_hears 74 = .ok (.aload_n 0, 1) := by decide +kernel
theorem d_MD_hears_75 : decode b_MD_hears 75 = .ok (.getfield 105, 3) := by decide +kernel
theorem d_MD_hears_78 : decode b_MD_hears 78 = .ok (.if_icmp .ge 12, 3) := by decide +kernel
theorem d_MD_hears_81 : decode b_MD_hears 81 = .ok (.aload_n 0, 1) := by decide +kernel
theorem d_MD_hears_82 : decode b_MD_hears 82 = .ok (.getfield 33, 3) := by decide +kernel
theorem d_MD_hears_85 : decode b_MD_hears 85 = .ok (.iconst 1, 1) := by decide +kernel
theorem d_MD_hears_86 : decode b_MD_hears 86 = .ok (.iadd, 1) := by decide +kernel
theorem d_MD_hears_87 : decode b_MD_hears 87 = .ok (.goto 4, 3) := by decide +kernel
theorem d_MD_hears_90 : decode b_MD_hears 90 = .ok (.iconst 0, 1) := by decide +kernel
theorem d_MD_hears_91 : decode b_MD_hears 91 = .ok (.invokevirtual 108, 3) := by decide +kernel
theorem d_MD_hears_94 : decode b_MD_hears 94 = .ok (.aload_n 0, 1) := by decide +kernel
theorem d_MD_hears_95 : decode b_MD_hears 95 = .ok (.getfield 66, 3) := by decide +kernel
theorem d_MD_hears_98 : decode b_MD_hears 98 = .ok (.if_icmp .lt 7, 3) := by decide +kernel
theorem d_MD_hears_101 : decode b_MD_hears 101 = .ok (.iconst 1, 1) := by decide +kernel
theorem d_MD_hears_102 : decode b_MD_hears 102 = .ok (.goto 4, 3) := by decide +kernel
theorem d_MD_hears_105 : decode b_MD_hears 105 = .ok (.iconst 0, 1) := by decide +kernel
theorem d_MD_hears_106 : decode b_MD_hears 106 = .ok (.istore 4, 2) := by decide +kernel
theorem d_MD_hears_108 : decode b_MD_hears 108 = .ok (.aload_n 0, 1) := by decide +kernel
theorem d_MD_hears_109 : decode b_MD_hears 109 = .ok (.dup, 1) := by decide +kernel
theorem d_MD_hears_110 : decode b_MD_hears 110 = .ok (.getfield 33, 3) := by decide +kernel
theorem d_MD_hears_113 : decode b_MD_hears 113 = .ok (.iload 4, 2) := by decide +kernel
theorem d_MD_hears_115 : decode b_MD_hears 115 = .ok (.ifCond .eq 7, 3) := by decide +kernel
theorem d_MD_hears_118 : decode b_MD_hears 118 = .ok (.iconst 1, 1) := by decide +kernel
theorem d_MD_hears_119 : decode b_MD_hears 119 = .ok (.goto 4, 3) := by decide +kernel
theorem d_MD_hears_122 : decode b_MD_hears 122 = .ok (.iconst 0, 1) := by decide +kernel
theorem d_MD_hears_123 : decode b_MD_hears 123 = .ok (.iadd, 1) := by decide +kernel
theorem d_MD_hears_124 : decode b_MD_hears 124 = .ok (.putfield 33, 3) := by decide +kernel
theorem d_MD_hears_127 : decode b_MD_hears 127 = .ok (.iinc 5 1, 3) := by decide +kernel
theorem d_MD_hears_130 : decode b_MD_hears 130 = .ok (.goto (-88), 3) := by decide +kernel
theorem d_MD_hears_133 : decode b_MD_hears 133 = .ok (.return_, 1) := by decide +kernel
theorem d_MD_fence_0 : decode b_MD_fence 0 = .ok (.aload_n 0, 1) := by decide +kernel
theorem d_MD_fence_1 : decode b_MD_fence 1 = .ok (.getfield 13, 3) := by decide +kernel
end
section
theorem d_MD_fence_4 : decode b_MD_fence 4 = .ok (.iload_n 3, 1) := by decide +kernel
theorem d_MD_fence_5 : decode b_MD_fence 5 = .ok (.iconst 1, 1) := by decide +kernel
theorem d_MD_fence_6 : decode b_MD_fence 6 = .ok (.bastore, 1) := by decide +kernel
theorem d_MD_fence_7 : decode b_MD_fence 7 = .ok (.iload_n 1, 1) := by decide +kernel
theorem d_MD_fence_8 : decode b_MD_fence 8 = .ok (.iconst 1, 1) := by decide +kernel
theorem d_MD_fence_9 : decode b_MD_fence 9 = .ok (.if_icmp .ne 23, 3) := by decide +kernel
theorem d_MD_fence_12 : decode b_MD_fence 12 = .ok (.aload_n 0, 1) := by decide +kernel
theorem d_MD_fence_13 : decode b_MD_fence 13 = .ok (.iconst 5, 1) := by decide +kernel
theorem d_MD_fence_14 : decode b_MD_fence 14 = .ok (.iload_n 2, 1) := by decide +kernel
theorem d_MD_fence_15 : decode b_MD_fence 15 = .ok (.iload_n 3, 1) := by decide +kernel
theorem d_MD_fence_16 : decode b_MD_fence 16 = .ok (.iconst 0, 1) := by decide +kernel
theorem d_MD_fence_17 : decode b_MD_fence 17 = .ok (.aload_n 0, 1) := by decide +kernel
theorem d_MD_fence_18 : decode b_MD_fence 18 = .ok (.getfield 16, 3) := by decide +kernel
theorem d_MD_fence_21 : decode b_MD_fence 21 = .ok (.iload_n 3, 1) := by decide +kernel
theorem d_MD_fence_22 : decode b_MD_fence 22 = .ok (.iaload, 1) := by decide +kernel
theorem d_MD_fence_23 : decode b_MD_fence 23 = .ok (.iload 5, 2) := by decide +kernel
theorem d_MD_fence_25 : decode b_MD_fence 25 = .ok (.iconst 0, 1) := by decide +kernel
theorem d_MD_fence_26 : decode b_MD_fence 26 = .ok (.invokevirtual 98, 3) := by decide +kernel
theorem d_MD_fence_29 : decode b_MD_fence 29 = .ok (.goto 60, 3) := by decide +kernel
theorem d_MD_fence_32 : decode b_MD_fence 32 = .ok (.aload_n 0, 1) := by decide +kernel
theorem d_MD_fence_33 : decode b_MD_fence 33 = .ok (.getfield 20, 3) := by decide +kernel
theorem d_MD_fence_36 : decode b_MD_fence 36 = .ok (.bipush 20, 2) := by decide +kernel
theorem d_MD_fence_38 : decode b_MD_fence 38 = .ok (.iload_n 3, 1) := by decide +kernel
theorem d_MD_fence_39 : decode b_MD_fence 39 = .ok (.imul, 1) := by decide +kernel
theorem d_MD_fence_40 : decode b_MD_fence 40 = .ok (.iload 4, 2) := by decide +kernel
theorem d_MD_fence_42 : decode b_MD_fence 42 = .ok (.iadd, 1) := by decide +kernel
theorem d_MD_fence_43 : decode b_MD_fence 43 = .ok (.baload, 1) := by decide +kernel
theorem d_MD_fence_44 : decode b_MD_fence 44 = .ok (.ifCond .eq 31, 3) := by decide +kernel
theorem d_MD_fence_47 : decode b_MD_fence 47 = .ok (.aload_n 0, 1) := by decide +kernel
theorem d_MD_fence_48 : decode b_MD_fence 48 = .ok (.bipush 6, 2) := by decide +kernel
theorem d_MD_fence_50 : decode b_MD_fence 50 = .ok (.iload_n 2, 1) := by decide +kernel
theorem d_MD_fence_51 : decode b_MD_fence 51 = .ok (.iload_n 3, 1) := by decide +kernel
theorem d_MD_fence_52 : decode b_MD_fence 52 = .ok (.iload 4, 2) := by decide +kernel
theorem d_MD_fence_54 : decode b_MD_fence 54 = .ok (.aload_n 0, 1) := by decide +kernel
theorem d_MD_fence_55 : decode b_MD_fence 55 = .ok (.getfield 23, 3) := by decide +kernel
theorem d_MD_fence_58 : decode b_MD_fence 58 = .ok (.bipush 20, 2) := by decide +kernel
theorem d_MD_fence_60 : decode b_MD_fence 60 = .ok (.iload_n 3, 1) := by decide +kernel
theorem d_MD_fence_61 : decode b_MD_fence 61 = .ok (.imul, 1) := by decide +kernel
theorem d_MD_fence_62 : decode b_MD_fence 62 = .ok (.iload 4, 2) := by decide +kernel
theorem d_MD_fence_64 : decode b_MD_fence 64 = .ok (.iadd, 1) := by decide +kernel
theorem d_MD_fence_65 : decode b_MD_fence 65 = .ok (.iaload, 1) := by decide +kernel
theorem d_MD_fence_66 : decode b_MD_fence 66 = .ok (.iload 5, 2) := by decide +kernel
theorem d_MD_fence_68 : decode b_MD_fence 68 = .ok (.iconst 0, 1) := by decide +kernel
theorem d_MD_fence_69 : decode b_MD_fence 69 = .ok (.invokevirtual 98, 3) := by decide +kernel
theorem d_MD_fence_72 : decode b_MD_fence 72 = .ok (.goto 17, 3) := by decide +kernel
theorem d_MD_fence_75 : decode b_MD_fence 75 = .ok (.aload_n 0, 1) := by decide +kernel
theorem d_MD_fence_76 : decode b_MD_fence 76 = .ok (.bipush 7, 2) := by decide +kernel
theorem d_MD_fence_78 : decode b_MD_fence 78 = .ok (.iload_n 2, 1) := by decide +kernel
theorem d_MD_fence_79 : decode b_MD_fence 79 = .ok (.iload_n 3, 1) := by decide +kernel
theorem d_MD_fence_80 : decode b_MD_fence 80 = .ok (.iload 4, 2) := by decide +kernel
theorem d_MD_fence_82 : decode b_MD_fence 82 = .ok (.iconst 0, 1) := by decide +kernel
theorem d_MD_fence_83 : decode b_MD_fence 83 = .ok (.iload 5, 2) := by decide +kernel
theorem d_MD_fence_85 : decode b_MD_fence 85 = .ok (.iconst 0, 1) := by decide +kernel
theorem d_MD_fence_86 : decode b_MD_fence 86 = .ok (.invokevirtual 98, 3) := by decide +kernel
theorem d_MD_fence_89 : decode b_MD_fence 89 = .ok (.return_, 1) := by decide +kernel
theorem d_MD_keep_0 : decode b_MD_keep 0 = .ok (.iload_n 1, 1) := by decide +kernel
theorem d_MD_keep_1 : decode b_MD_keep 1 = .ok (.ifCond .ne 24, 3) := by decide +kernel
theorem d_MD_keep_4 : decode b_MD_keep 4 = .ok (.aload_n 0, 1) := by decide +kernel
theorem d_MD_keep_5 : decode b_MD_keep 5 = .ok (.getfield 13, 3) := by decide +kernel
theorem d_MD_keep_8 : decode b_MD_keep 8 = .ok (.iload_n 2, 1) := by decide +kernel
theorem d_MD_keep_9 : decode b_MD_keep 9 = .ok (.baload, 1) := by decide +kernel
theorem d_MD_keep_10 : decode b_MD_keep 10 = .ok (.ifCond .eq 15, 3) := by decide +kernel
theorem d_MD_keep_13 : decode b_MD_keep 13 = .ok (.aload_n 0, 1) := by decide +kernel
theorem d_MD_keep_14 : decode b_MD_keep 14 = .ok (.iconst 4, 1) := by decide +kernel
theorem d_MD_keep_15 : decode b_MD_keep 15 = .ok (.iload_n 1, 1) := by decide +kernel
theorem d_MD_keep_16 : decode b_MD_keep 16 = .ok (.iload_n 2, 1) := by decide +kernel
theorem d_MD_keep_17 : decode b_MD_keep 17 = .ok (.iload_n 3, 1) := by decide +kernel
theorem d_MD_keep_18 : decode b_MD_keep 18 = .ok (.iconst 0, 1) := by decide +kernel
theorem d_MD_keep_19 : decode b_MD_keep 19 = .ok (.iconst 0, 1) := by decide +kernel
theorem d_MD_keep_20 : decode b_MD_keep 20 = .ok (.iconst 0, 1) := by decide +kernel
theorem d_MD_keep_21 : decode b_MD_keep 21 = .ok (.invokevirtual 98, 3) := by decide +kernel
theorem d_MD_keep_24 : decode b_MD_keep 24 = .ok (.return_, 1) := by decide +kernel
theorem d_MD_keep_25 : decode b_MD_keep 25 = .ok (.aload_n 0, 1) := by decide +kernel
theorem d_MD_keep_26 : decode b_MD_keep 26 = .ok (.getfield 20, 3) := by decide +kernel
theorem d_MD_keep_29 : decode b_MD_keep 29 = .ok (.bipush 20, 2) := by decide +kernel
theorem d_MD_keep_31 : decode b_MD_keep 31 = .ok (.iload_n 2, 1) := by decide +kernel
theorem d_MD_keep_32 : decode b_MD_keep 32 = .ok (.imul, 1) := by decide +kernel
theorem d_MD_keep_33 : decode b_MD_keep 33 = .ok (.iload_n 3, 1) := by decide +kernel
theorem d_MD_keep_34 : decode b_MD_keep 34 = .ok (.iadd, 1) := by decide +kernel
theorem d_MD_keep_35 : decode b_MD_keep 35 = .ok (.iconst 1, 1) := by decide +kernel
theorem d_MD_keep_36 : decode b_MD_keep 36 = .ok (.bastore, 1) := by decide +kernel
theorem d_MD_keep_37 : decode b_MD_keep 37 = .ok (.aload_n 0, 1) := by decide +kernel
theorem d_MD_keep_38 : decode b_MD_keep 38 = .ok (.getfield 23, 3) := by decide +kernel
theorem d_MD_keep_41 : decode b_MD_keep 41 = .ok (.bipush 20, 2) := by decide +kernel
theorem d_MD_keep_43 : decode b_MD_keep 43 = .ok (.iload_n 2, 1) := by decide +kernel
theorem d_MD_keep_44 : decode b_MD_keep 44 = .ok (.imul, 1) := by decide +kernel
theorem d_MD_keep_45 : decode b_MD_keep 45 = .ok (.iload_n 3, 1) := by decide +kernel
theorem d_MD_keep_46 : decode b_MD_keep 46 = .ok (.iadd, 1) := by decide +kernel
theorem d_MD_keep_47 : decode b_MD_keep 47 = .ok (.iload 4, 2) := by decide +kernel
theorem d_MD_keep_49 : decode b_MD_keep 49 = .ok (.iastore, 1) := by decide +kernel
theorem d_MD_keep_50 : decode b_MD_keep 50 = .ok (.aload_n 0, 1) := by decide +kernel
theorem d_MD_keep_51 : decode b_MD_keep 51 = .ok (.getfield 16, 3) := by decide +kernel
theorem d_MD_keep_54 : decode b_MD_keep 54 = .ok (.iload_n 2, 1) := by decide +kernel
theorem d_MD_keep_55 : decode b_MD_keep 55 = .ok (.iload 6, 2) := by decide +kernel
theorem d_MD_keep_57 : decode b_MD_keep 57 = .ok (.aload_n 0, 1) := by decide +kernel
theorem d_MD_keep_58 : decode b_MD_keep 58 = .ok (.getfield 16, 3) := by decide +kernel
theorem d_MD_keep_61 : decode b_MD_keep 61 = .ok (.iload_n 2, 1) := by decide +kernel
theorem d_MD_keep_62 : decode b_MD_keep 62 = .ok (.iaload, 1) := by decide +kernel
theorem d_MD_keep_63 : decode b_MD_keep 63 = .ok (.if_icmp .le 8, 3) := by decide +kernel
theorem d_MD_keep_66 : decode b_MD_keep 66 = .ok (.iload 6, 2) := by decide +kernel
theorem d_MD_keep_68 : decode b_MD_keep 68 = .ok (.goto 9, 3) := by decide +kernel
theorem d_MD_keep_71 : decode b_MD_keep 71 = .ok (.aload_n 0, 1) := by decide +kernel
theorem d_MD_keep_72 : decode b_MD_keep 72 = .ok (.getfield 16, 3) := by decide +kernel
theorem d_MD_keep_75 : decode b_MD_keep 75 = .ok (.iload_n 2, 1) := by decide +kernel
theorem d_MD_keep_76 : decode b_MD_keep 76 = .ok (.iaload, 1) := by decide +kernel
theorem d_MD_keep_77 : decode b_MD_keep 77 = .ok (.iastore, 1) := by decide +kernel
theorem d_MD_keep_78 : decode b_MD_keep 78 = .ok (.aload_n 0, 1) := by decide +kernel
theorem d_MD_keep_79 : decode b_MD_keep 79 = .ok (.iconst 3, 1) := by decide +kernel
theorem d_MD_keep_80 : decode b_MD_keep 80 = .ok (.iload_n 1, 1) := by decide +kernel
theorem d_MD_keep_81 : decode b_MD_keep 81 = .ok (.iload_n 2, 1) := by decide +kernel
theorem d_MD_keep_82 : decode b_MD_keep 82 = .ok (.iload_n 3, 1) := by decide +kernel
theorem d_MD_keep_83 : decode b_MD_keep 83 = .ok (.iconst 0, 1) := by decide +kernel
theorem d_MD_keep_84 : decode b_MD_keep 84 = .ok (.iload 5, 2) := by decide +kernel
theorem d_MD_keep_86 : decode b_MD_keep 86 = .ok (.iconst 0, 1) := by decide +kernel
theorem d_MD_keep_87 : decode b_MD_keep 87 = .ok (.invokevirtual 98, 3) := by decide +kernel
theorem d_MD_keep_90 : decode b_MD_keep 90 = .ok (.return_, 1) := by decide +kernel
theorem d_MD_deliver_0 : decode b_MD_deliver 0 = .ok (.aload_n 0, 1) := by decide +kernel
theorem d_MD_deliver_1 : decode b_MD_deliver 1 = .ok (.iconst 0, 1) := by decide +kernel
theorem d_MD_deliver_2 : decode b_MD_deliver 2 = .ok (.putfield 69, 3) := by decide +kernel
theorem d_MD_deliver_5 : decode b_MD_deliver 5 = .ok (.aload_n 0, 1) := by decide +kernel
theorem d_MD_deliver_6 : decode b_MD_deliver 6 = .ok (.iload_n 1, 1) := by decide +kernel
theorem d_MD_deliver_7 : decode b_MD_deliver 7 = .ok (.invokevirtual 75, 3) := by decide +kernel
theorem d_MD_deliver_10 : decode b_MD_deliver 10 = .ok (.ifCond .ne 5, 3) := by decide +kernel
theorem d_MD_deliver_13 : decode b_MD_deliver 13 = .ok (.iconst (-1), 1) := by decide +kernel
theorem d_MD_deliver_14 : decode b_MD_deliver 14 = .ok (.ireturn, 1) := by decide +kernel
theorem d_MD_deliver_15 : decode b_MD_deliver 15 = .ok (.bipush 7, 2) := by decide +kernel
theorem d_MD_deliver_17 : decode b_MD_deliver 17 = .ok (.iload_n 1, 1) := by decide +kernel
theorem d_MD_deliver_18 : decode b_MD_deliver 18 = .ok (.imul, 1) := by decide +kernel
theorem d_MD_deliver_19 : decode b_MD_deliver 19 = .ok (.istore_n 2, 1) := by decide +kernel
theorem d_MD_deliver_20 : decode b_MD_deliver 20 = .ok (.aload_n 0, 1) := by decide +kernel
theorem d_MD_deliver_21 : decode b_MD_deliver 21 = .ok (.getfield 30, 3) := by decide +kernel
theorem d_MD_deliver_24 : decode b_MD_deliver 24 = .ok (.iload_n 2, 1) := by decide +kernel
theorem d_MD_deliver_25 : decode b_MD_deliver 25 = .ok (.iaload, 1) := by decide +kernel
theorem d_MD_deliver_26 : decode b_MD_deliver 26 = .ok (.istore_n 3, 1) := by decide +kernel
theorem d_MD_deliver_27 : decode b_MD_deliver 27 = .ok (.aload_n 0, 1) := by decide +kernel
theorem d_MD_deliver_28 : decode b_MD_deliver 28 = .ok (.getfield 30, 3) := by decide +kernel
theorem d_MD_deliver_31 : decode b_MD_deliver 31 = .ok (.iload_n 2, 1) := by decide +kernel
theorem d_MD_deliver_32 : decode b_MD_deliver 32 = .ok (.iconst 1, 1) := by decide +kernel
theorem d_MD_deliver_33 : decode b_MD_deliver 33 = .ok (.iadd, 1) := by decide +kernel
theorem d_MD_deliver_34 : decode b_MD_deliver 34 = .ok (.iaload, 1) := by decide +kernel
theorem d_MD_deliver_35 : decode b_MD_deliver 35 = .ok (.istore 4, 2) := by decide +kernel
theorem d_MD_deliver_37 : decode b_MD_deliver 37 = .ok (.aload_n 0, 1) := by decide +kernel
theorem d_MD_deliver_38 : decode b_MD_deliver 38 = .ok (.getfield 30, 3) := by decide +kernel
theorem d_MD_deliver_41 : decode b_MD_deliver 41 = .ok (.iload_n 2, 1) := by decide +kernel
theorem d_MD_deliver_42 : decode b_MD_deliver 42 = .ok (.iconst 2, 1) := by decide +kernel
theorem d_MD_deliver_43 : decode b_MD_deliver 43 = .ok (.iadd, 1) := by decide +kernel
theorem d_MD_deliver_44 : decode b_MD_deliver 44 = .ok (.iaload, 1) := by decide +kernel
theorem d_MD_deliver_45 : decode b_MD_deliver 45 = .ok (.istore 5, 2) := by decide +kernel
theorem d_MD_deliver_47 : decode b_MD_deliver 47 = .ok (.aload_n 0, 1) := by decide +kernel
theorem d_MD_deliver_48 : decode b_MD_deliver 48 = .ok (.getfield 30, 3) := by decide +kernel
theorem d_MD_deliver_51 : decode b_MD_deliver 51 = .ok (.iload_n 2, 1) := by decide +kernel
theorem d_MD_deliver_52 : decode b_MD_deliver 52 = .ok (.iconst 3, 1) := by decide +kernel
theorem d_MD_deliver_53 : decode b_MD_deliver 53 = .ok (.iadd, 1) := by decide +kernel
theorem d_MD_deliver_54 : decode b_MD_deliver 54 = .ok (.iaload, 1) := by decide +kernel
theorem d_MD_deliver_55 : decode b_MD_deliver 55 = .ok (.istore 6, 2) := by decide +kernel
theorem d_MD_deliver_57 : decode b_MD_deliver 57 = .ok (.aload_n 0, 1) := by decide +kernel
theorem d_MD_deliver_58 : decode b_MD_deliver 58 = .ok (.getfield 30, 3) := by decide +kernel
theorem d_MD_deliver_61 : decode b_MD_deliver 61 = .ok (.iload_n 2, 1) := by decide +kernel
theorem d_MD_deliver_62 : decode b_MD_deliver 62 = .ok (.iconst 4, 1) := by decide +kernel
theorem d_MD_deliver_63 : decode b_MD_deliver 63 = .ok (.iadd, 1) := by decide +kernel
theorem d_MD_deliver_64 : decode b_MD_deliver 64 = .ok (.iaload, 1) := by decide +kernel
theorem d_MD_deliver_65 : decode b_MD_deliver 65 = .ok (.istore 7, 2) := by decide +kernel
theorem d_MD_deliver_67 : decode b_MD_deliver 67 = .ok (.aload_n 0, 1) := by decide +kernel
theorem d_MD_deliver_68 : decode b_MD_deliver 68 = .ok (.getfield 30, 3) := by decide +kernel
theorem d_MD_deliver_71 : decode b_MD_deliver 71 = .ok (.iload_n 2, 1) := by decide +kernel
theorem d_MD_deliver_72 : decode b_MD_deliver 72 = .ok (.iconst 5, 1) := by decide +kernel
theorem d_MD_deliver_73 : decode b_MD_deliver 73 = .ok (.iadd, 1) := by decide +kernel
theorem d_MD_deliver_74 : decode b_MD_deliver 74 = .ok (.iaload, 1) := by decide +kernel
theorem d_MD_deliver_75 : decode b_MD_deliver 75 = .ok (.istore 8, 2) := by decide +kernel
theorem d_MD_deliver_77 : decode b_MD_deliver 77 = .ok (.aload_n 0, 1) := by decide +kernel
theorem d_MD_deliver_78 : decode b_MD_deliver 78 = .ok (.getfield 30, 3) := by decide +kernel
theorem d_MD_deliver_81 : decode b_MD_deliver 81 = .ok (.iload_n 2, 1) := by decide +kernel
theorem d_MD_deliver_82 : decode b_MD_deliver 82 = .ok (.bipush 6, 2) := by decide +kernel
theorem d_MD_deliver_84 : decode b_MD_deliver 84 = .ok (.iadd, 1) := by decide +kernel
theorem d_MD_deliver_85 : decode b_MD_deliver 85 = .ok (.iaload, 1) := by decide +kernel
theorem d_MD_deliver_86 : decode b_MD_deliver 86 = .ok (.istore 9, 2) := by decide +kernel
theorem d_MD_deliver_88 : decode b_MD_deliver 88 = .ok (.aload_n 0, 1) := by decide +kernel
theorem d_MD_deliver_89 : decode b_MD_deliver 89 = .ok (.iload_n 1, 1) := by decide +kernel
theorem d_MD_deliver_90 : decode b_MD_deliver 90 = .ok (.invokevirtual 79, 3) := by decide +kernel
theorem d_MD_deliver_93 : decode b_MD_deliver 93 = .ok (.iload_n 3, 1) := by decide +kernel
theorem d_MD_deliver_94 : decode b_MD_deliver 94 = .ok (.ifCond .ne 32, 3) := by decide +kernel
theorem d_MD_deliver_97 : decode b_MD_deliver 97 = .ok (.aload_n 0, 1) := by decide +kernel
theorem d_MD_deliver_98 : decode b_MD_deliver 98 = .ok (.getfield 7, 3) := by decide +kernel
theorem d_MD_deliver_101 : decode b_MD_deliver 101 = .ok (.iload 5, 2) := by decide +kernel
theorem d_MD_deliver_103 : decode b_MD_deliver 103 = .ok (.baload, 1) := by decide +kernel
theorem d_MD_deliver_104 : decode b_MD_deliver 104 = .ok (.ifCond .ne 22, 3) := by decide +kernel
theorem d_MD_deliver_107 : decode b_MD_deliver 107 = .ok (.aload_n 0, 1) := by decide +kernel
theorem d_MD_deliver_108 : decode b_MD_deliver 108 = .ok (.iload 4, 2) := by decide +kernel
theorem d_MD_deliver_110 : decode b_MD_deliver 110 = .ok (.iload 5, 2) := by decide +kernel
theorem d_MD_deliver_112 : decode b_MD_deliver 112 = .ok (.iload 6, 2) := by decide +kernel
theorem d_MD_deliver_114 : decode b_MD_deliver 114 = .ok (.iload 7, 2) := by decide +kernel
theorem d_MD_deliver_116 : decode b_MD_deliver 116 = .ok (.iload 8, 2) := by decide +kernel
theorem d_MD_deliver_118 : decode b_MD_deliver 118 = .ok (.iload 9, 2) := by decide +kernel
theorem d_MD_deliver_120 : decode b_MD_deliver 120 = .ok (.invokevirtual 83, 3) := by decide +kernel
theorem d_MD_deliver_123 : decode b_MD_deliver 123 = .ok (.goto 86, 3) := by decide +kernel
theorem d_MD_deliver_126 : decode b_MD_deliver 126 = .ok (.iload_n 3, 1) := by decide +kernel
theorem d_MD_deliver_127 : decode b_MD_deliver 127 = .ok (.iconst 3, 1) := by decide +kernel
theorem d_MD_deliver_128 : decode b_MD_deliver 128 = .ok (.if_icmp .ge 29, 3) := by decide +kernel
theorem d_MD_deliver_131 : decode b_MD_deliver 131 = .ok (.aload_n 0, 1) := by decide +kernel
theorem d_MD_deliver_132 : decode b_MD_deliver 132 = .ok (.getfield 7, 3) := by decide +kernel
theorem d_MD_deliver_135 : decode b_MD_deliver 135 = .ok (.iload 5, 2) := by decide +kernel
theorem d_MD_deliver_137 : decode b_MD_deliver 137 = .ok (.baload, 1) := by decide +kernel
theorem d_MD_deliver_138 : decode b_MD_deliver 138 = .ok (.ifCond .ne 19, 3) := by decide +kernel
theorem d_MD_deliver_141 : decode b_MD_deliver 141 = .ok (.aload_n 0, 1) := by decide +kernel
theorem d_MD_deliver_142 : decode b_MD_deliver 142 = .ok (.iload_n 3, 1) := by decide +kernel
theorem d_MD_deliver_143 : decode b_MD_deliver 143 = .ok (.iload 4, 2) := by decide +kernel
theorem d_MD_deliver_145 : decode b_MD_deliver 145 = .ok (.iload 5, 2) := by decide +kernel
theorem d_MD_deliver_147 : decode b_MD_deliver 147 = .ok (.iload 6, 2) := by decide +kernel
theorem d_MD_deliver_149 : decode b_MD_deliver 149 = .ok (.iload 8, 2) := by decide +kernel
theorem d_MD_deliver_151 : decode b_MD_deliver 151 = .ok (.invokevirtual 87, 3) := by decide +kernel
theorem d_MD_deliver_154 : decode b_MD_deliver 154 = .ok (.goto 55, 3) := by decide +kernel
theorem d_MD_deliver_157 : decode b_MD_deliver 157 = .ok (.iload_n 3, 1) := by decide +kernel
theorem d_MD_deliver_158 : decode b_MD_deliver 158 = .ok (.iconst 3, 1) := by decide +kernel
theorem d_MD_deliver_159 : decode b_MD_deliver 159 = .ok (.if_icmp .lt 20, 3) := by decide +kernel
theorem d_MD_deliver_162 : decode b_MD_deliver 162 = .ok (.iload 4, 2) := by decide +kernel
theorem d_MD_deliver_164 : decode b_MD_deliver 164 = .ok (.ifCond .ne 15, 3) := by decide +kernel
theorem d_MD_deliver_167 : decode b_MD_deliver 167 = .ok (.aload_n 0, 1) := by decide +kernel
theorem d_MD_deliver_168 : decode b_MD_deliver 168 = .ok (.iload_n 3, 1) := by decide +kernel
theorem d_MD_deliver_169 : decode b_MD_deliver 169 = .ok (.iload 5, 2) := by decide +kernel
theorem d_MD_deliver_171 : decode b_MD_deliver 171 = .ok (.iload 6, 2) := by decide +kernel
theorem d_MD_deliver_173 : decode b_MD_deliver 173 = .ok (.invokevirtual 91, 3) := by decide +kernel
theorem d_MD_deliver_176 : decode b_MD_deliver 176 = .ok (.goto 33, 3) := by decide +kernel
theorem d_MD_deliver_179 : decode b_MD_deliver 179 = .ok (.iload_n 3, 1) := by decide +kernel
theorem d_MD_deliver_180 : decode b_MD_deliver 180 = .ok (.iconst 3, 1) := by decide +kernel
theorem d_MD_deliver_181 : decode b_MD_deliver 181 = .ok (.if_icmp .lt 28, 3) := by decide +kernel
theorem d_MD_deliver_184 : decode b_MD_deliver 184 = .ok (.iload 8, 2) := by decide +kernel
theorem d_MD_deliver_186 : decode b_MD_deliver 186 = .ok (.aload_n 0, 1) := by decide +kernel
theorem d_MD_deliver_187 : decode b_MD_deliver 187 = .ok (.getfield 45, 3) := by decide +kernel
theorem d_MD_deliver_190 : decode b_MD_deliver 190 = .ok (.iload 4, 2) := by decide +kernel
theorem d_MD_deliver_192 : decode b_MD_deliver 192 = .ok (.iaload, 1) := by decide +kernel
theorem d_MD_deliver_193 : decode b_MD_deliver 193 = .ok (.if_icmp .ne 16, 3) := by decide +kernel
theorem d_MD_deliver_196 : decode b_MD_deliver 196 = .ok (.aload_n 0, 1) := by decide +kernel
theorem d_MD_deliver_197 : decode b_MD_deliver 197 = .ok (.iload_n 3, 1) := by decide +kernel
theorem d_MD_deliver_198 : decode b_MD_deliver 198 = .ok (.iload 4, 2) := by decide +kernel
theorem d_MD_deliver_200 : decode b_MD_deliver 200 = .ok (.iload 5, 2) := by decide +kernel
theorem d_MD_deliver_202 : decode b_MD_deliver 202 = .ok (.iload 6, 2) := by decide +kernel
theorem d_MD_deliver_204 : decode b_MD_deliver 204 = .ok (.iload 7, 2) := by decide +kernel
theorem d_MD_deliver_206 : decode b_MD_deliver 206 = .ok (.invokevirtual 95, 3) := by decide +kernel
theorem d_MD_deliver_209 : decode b_MD_deliver 209 = .ok (.iload_n 3, 1) := by decide +kernel
theorem d_MD_deliver_210 : decode b_MD_deliver 210 = .ok (.ireturn, 1) := by decide +kernel
theorem d_MD_lose_0 : decode b_MD_lose 0 = .ok (.aload_n 0, 1) := by decide +kernel
theorem d_MD_lose_1 : decode b_MD_lose 1 = .ok (.iconst 0, 1) := by decide +kernel
theorem d_MD_lose_2 : decode b_MD_lose 2 = .ok (.putfield 69, 3) := by decide +kernel
theorem d_MD_lose_5 : decode b_MD_lose 5 = .ok (.aload_n 0, 1) := by decide +kernel
theorem d_MD_lose_6 : decode b_MD_lose 6 = .ok (.iload_n 1, 1) := by decide +kernel
theorem d_MD_lose_7 : decode b_MD_lose 7 = .ok (.invokevirtual 75, 3) := by decide +kernel
theorem d_MD_lose_10 : decode b_MD_lose 10 = .ok (.ifCond .ne 5, 3) := by decide +kernel
theorem d_MD_lose_13 : decode b_MD_lose 13 = .ok (.iconst 0, 1) := by decide +kernel
theorem d_MD_lose_14 : decode b_MD_lose 14 = .ok (.ireturn, 1) := by decide +kernel
theorem d_MD_lose_15 : decode b_MD_lose 15 = .ok (.aload_n 0, 1) := by decide +kernel
theorem d_MD_lose_16 : decode b_MD_lose 16 = .ok (.iload_n 1, 1) := by decide +kernel
theorem d_MD_lose_17 : decode b_MD_lose 17 = .ok (.invokevirtual 79, 3) := by decide +kernel
theorem d_MD_lose_20 : decode b_MD_lose 20 = .ok (.iconst 1, 1) := by decide +kernel
theorem d_MD_lose_21 : decode b_MD_lose 21 = .ok (.ireturn, 1) := by decide +kernel
theorem d_MD_flight_0 : decode b_MD_flight 0 = .ok (.aload_n 0, 1) := by decide +kernel
theorem d_MD_flight_1 : decode b_MD_flight 1 = .ok (.iconst 0, 1) := by decide +kernel
theorem d_MD_flight_2 : decode b_MD_flight 2 = .ok (.putfield 69, 3) := by decide +kernel
theorem d_MD_flight_5 : decode b_MD_flight 5 = .ok (.aload_n 0, 1) := by decide +kernel
theorem d_MD_flight_6 : decode b_MD_flight 6 = .ok (.getfield 72, 3) := by decide +kernel
theorem d_MD_flight_9 : decode b_MD_flight 9 = .ok (.ireturn, 1) := by decide +kernel
theorem d_MD_message_0 : decode b_MD_message 0 = .ok (.aload_n 0, 1) := by decide +kernel
theorem d_MD_message_1 : decode b_MD_message 1 = .ok (.iconst 0, 1) := by decide +kernel
theorem d_MD_message_2 : decode b_MD_message 2 = .ok (.putfield 69, 3) := by decide +kernel
theorem d_MD_message_5 : decode b_MD_message 5 = .ok (.aload_n 0, 1) := by decide +kernel
theorem d_MD_message_6 : decode b_MD_message 6 = .ok (.iload_n 1, 1) := by decide +kernel
theorem d_MD_message_7 : decode b_MD_message 7 = .ok (.invokevirtual 75, 3) := by decide +kernel
theorem d_MD_message_10 : decode b_MD_message 10 = .ok (.ifCond .eq 27, 3) := by decide +kernel
theorem d_MD_message_13 : decode b_MD_message 13 = .ok (.iload_n 2, 1) := by decide +kernel
theorem d_MD_message_14 : decode b_MD_message 14 = .ok (.ifCond .lt 23, 3) := by decide +kernel
theorem d_MD_message_17 : decode b_MD_message 17 = .ok (.iload_n 2, 1) := by decide +kernel
theorem d_MD_message_18 : decode b_MD_message 18 = .ok (.bipush 7, 2) := by decide +kernel
theorem d_MD_message_20 : decode b_MD_message 20 = .ok (.if_icmp .ge 17, 3) := by decide +kernel
theorem d_MD_message_23 : decode b_MD_message 23 = .ok (.aload_n 0, 1) := by decide +kernel
theorem d_MD_message_24 : decode b_MD_message 24 = .ok (.getfield 30, 3) := by decide +kernel
theorem d_MD_message_27 : decode b_MD_message 27 = .ok (.bipush 7, 2) := by decide +kernel
theorem d_MD_message_29 : decode b_MD_message 29 = .ok (.iload_n 1, 1) := by decide +kernel
theorem d_MD_message_30 : decode b_MD_message 30 = .ok (.imul, 1) := by decide +kernel
theorem d_MD_message_31 : decode b_MD_message 31 = .ok (.iload_n 2, 1) := by decide +kernel
theorem d_MD_message_32 : decode b_MD_message 32 = .ok (.iadd, 1) := by decide +kernel
theorem d_MD_message_33 : decode b_MD_message 33 = .ok (.iaload, 1) := by decide +kernel
theorem d_MD_message_34 : decode b_MD_message 34 = .ok (.goto 4, 3) := by decide +kernel
theorem d_MD_message_37 : decode b_MD_message 37 = .ok (.iconst (-1), 1) := by decide +kernel
theorem d_MD_message_38 : decode b_MD_message 38 = .ok (.ireturn, 1) := by decide +kernel
theorem d_MD_spread_0 : decode b_MD_spread 0 = .ok (.iconst 0, 1) := by decide +kernel
theorem d_MD_spread_1 : decode b_MD_spread 1 = .ok (.istore_n 2, 1) := by decide +kernel
theorem d_MD_spread_2 : decode b_MD_spread 2 = .ok (.iconst 0, 1) := by decide +kernel
theorem d_MD_spread_3 : decode b_MD_spread 3 = .ok (.istore_n 3, 1) := by decide +kernel
theorem d_MD_spread_4 : decode b_MD_spread 4 = .ok (.iload_n 3, 1) := by decide +kernel
theorem d_MD_spread_5 : decode b_MD_spread 5 = .ok (.aload_n 0, 1) := by decide +kernel
theorem d_MD_spread_6 : decode b_MD_spread 6 = .ok (.getfield 63, 3) := by decide +kernel
theorem d_MD_spread_9 : decode b_MD_spread 9 = .ok (.if_icmp .ge 57, 3) := by decide +kernel
theorem d_MD_spread_12 : decode b_MD_spread 12 = .ok (.iload_n 1, 1) := by decide +kernel
theorem d_MD_spread_13 : decode b_MD_spread 13 = .ok (.iload_n 3, 1) := by decide +kernel
theorem d_MD_spread_14 : decode b_MD_spread 14 = .ok (.iadd, 1) := by decide +kernel
theorem d_MD_spread_15 : decode b_MD_spread 15 = .ok (.aload_n 0, 1) := by decide +kernel
theorem d_MD_spread_16 : decode b_MD_spread 16 = .ok (.getfield 60, 3) := by decide +kernel
theorem d_MD_spread_19 : decode b_MD_spread 19 = .ok (.irem, 1) := by decide +kernel
theorem d_MD_spread_20 : decode b_MD_spread 20 = .ok (.istore 4, 2) := by decide +kernel
theorem d_MD_spread_22 : decode b_MD_spread 22 = .ok (.aload_n 0, 1) := by decide +kernel
theorem d_MD_spread_23 : decode b_MD_spread 23 = .ok (.getfield 39, 3) := by decide +kernel
theorem d_MD_spread_26 : decode b_MD_spread 26 = .ok (.bipush 20, 2) := by decide +kernel
theorem d_MD_spread_28 : decode b_MD_spread 28 = .ok (.iload 4, 2) := by decide +kernel
theorem d_MD_spread_30 : decode b_MD_spread 30 = .ok (.imul, 1) := by decide +kernel
theorem d_MD_spread_31 : decode b_MD_spread 31 = .ok (.iload_n 1, 1) := by decide +kernel
theorem d_MD_spread_32 : decode b_MD_spread 32 = .ok (.iadd, 1) := by decide +kernel
theorem d_MD_spread_33 : decode b_MD_spread 33 = .ok (.baload, 1) := by decide +kernel
theorem d_MD_spread_34 : decode b_MD_spread 34 = .ok (.ifCond .ne 26, 3) := by decide +kernel
theorem d_MD_spread_37 : decode b_MD_spread 37 = .ok (.aload_n 0, 1) := by decide +kernel
theorem d_MD_spread_38 : decode b_MD_spread 38 = .ok (.iconst 0, 1) := by decide +kernel
theorem d_MD_spread_39 : decode b_MD_spread 39 = .ok (.iconst 0, 1) := by decide +kernel
theorem d_MD_spread_40 : decode b_MD_spread 40 = .ok (.iload 4, 2) := by decide +kernel
theorem d_MD_spread_42 : decode b_MD_spread 42 = .ok (.iload_n 1, 1) := by decide +kernel
theorem d_MD_spread_43 : decode b_MD_spread 43 = .ok (.aload_n 0, 1) := by decide +kernel
theorem d_MD_spread_44 : decode b_MD_spread 44 = .ok (.getfield 36, 3) := by decide +kernel
theorem d_MD_spread_47 : decode b_MD_spread 47 = .ok (.iload_n 1, 1) := by decide +kernel
theorem d_MD_spread_48 : decode b_MD_spread 48 = .ok (.iaload, 1) := by decide +kernel
theorem d_MD_spread_49 : decode b_MD_spread 49 = .ok (.iconst 0, 1) := by decide +kernel
theorem d_MD_spread_50 : decode b_MD_spread 50 = .ok (.aload_n 0, 1) := by decide +kernel
theorem d_MD_spread_51 : decode b_MD_spread 51 = .ok (.getfield 33, 3) := by decide +kernel
theorem d_MD_spread_54 : decode b_MD_spread 54 = .ok (.invokevirtual 98, 3) := by decide +kernel
theorem d_MD_spread_57 : decode b_MD_spread 57 = .ok (.iinc 2 1, 3) := by decide +kernel
theorem d_MD_spread_60 : decode b_MD_spread 60 = .ok (.iinc 3 1, 3) := by decide +kernel
theorem d_MD_spread_63 : decode b_MD_spread 63 = .ok (.goto (-59), 3) := by decide +kernel
theorem d_MD_spread_66 : decode b_MD_spread 66 = .ok (.iload_n 2, 1) := by decide +kernel
theorem d_MD_spread_67 : decode b_MD_spread 67 = .ok (.ireturn, 1) := by decide +kernel
theorem d_MD_add_0 : decode b_MD_add 0 = .ok (.aload_n 0, 1) := by decide +kernel
theorem d_MD_add_1 : decode b_MD_add 1 = .ok (.aload_n 0, 1) := by decide +kernel
theorem d_MD_add_2 : decode b_MD_add 2 = .ok (.getfield 102, 3) := by decide +kernel
theorem d_MD_add_5 : decode b_MD_add 5 = .ok (.ifCond .eq 7, 3) := by decide +kernel
theorem d_MD_add_8 : decode b_MD_add 8 = .ok (.iconst 1, 1) := by decide +kernel
theorem d_MD_add_9 : decode b_MD_add 9 = .ok (.goto 32, 3) := by decide +kernel
theorem d_MD_add_12 : decode b_MD_add 12 = .ok (.aload_n 0, 1) := by decide +kernel
theorem d_MD_add_13 : decode b_MD_add 13 = .ok (.getfield 105, 3) := by decide +kernel
theorem d_MD_add_16 : decode b_MD_add 16 = .ok (.bipush 20, 2) := by decide +kernel
theorem d_MD_add_18 : decode b_MD_add 18 = .ok (.if_icmp .eq 18, 3) := by decide +kernel
theorem d_MD_add_21 : decode b_MD_add 21 = .ok (.aload_n 0, 1) := by decide +kernel
theorem d_MD_add_22 : decode b_MD_add 22 = .ok (.getfield 105, 3) := by decide +kernel
theorem d_MD_add_25 : decode b_MD_add 25 = .ok (.iconst 1, 1) := by decide +kernel
theorem d_MD_add_26 : decode b_MD_add 26 = .ok (.isub, 1) := by decide +kernel
theorem d_MD_add_27 : decode b_MD_add 27 = .ok (.aload_n 0, 1) := by decide +kernel
theorem d_MD_add_28 : decode b_MD_add 28 = .ok (.getfield 33, 3) := by decide +kernel
theorem d_MD_add_31 : decode b_MD_add 31 = .ok (.isub, 1) := by decide +kernel
theorem d_MD_add_32 : decode b_MD_add 32 = .ok (.iconst 4, 1) := by decide +kernel
theorem d_MD_add_33 : decode b_MD_add 33 = .ok (.if_icmp .lt 7, 3) := by decide +kernel
theorem d_MD_add_36 : decode b_MD_add 36 = .ok (.iconst 2, 1) := by decide +kernel
theorem d_MD_add_37 : decode b_MD_add 37 = .ok (.goto 4, 3) := by decide +kernel
theorem d_MD_add_40 : decode b_MD_add 40 = .ok (.iconst 0, 1) := by decide +kernel
theorem d_MD_add_41 : decode b_MD_add 41 = .ok (.putfield 69, 3) := by decide +kernel
theorem d_MD_add_44 : decode b_MD_add 44 = .ok (.aload_n 0, 1) := by decide +kernel
theorem d_MD_add_45 : decode b_MD_add 45 = .ok (.getfield 69, 3) := by decide +kernel
theorem d_MD_add_48 : decode b_MD_add 48 = .ok (.ifCond .le 5, 3) := by decide +kernel
theorem d_MD_add_51 : decode b_MD_add 51 = .ok (.iconst 0, 1) := by decide +kernel
theorem d_MD_add_52 : decode b_MD_add 52 = .ok (.ireturn, 1) := by decide +kernel
theorem d_MD_add_53 : decode b_MD_add 53 = .ok (.aload_n 0, 1) := by decide +kernel
theorem d_MD_add_54 : decode b_MD_add 54 = .ok (.getfield 105, 3) := by decide +kernel
theorem d_MD_add_57 : decode b_MD_add 57 = .ok (.istore_n 2, 1) := by decide +kernel
theorem d_MD_add_58 : decode b_MD_add 58 = .ok (.aload_n 0, 1) := by decide +kernel
theorem d_MD_add_59 : decode b_MD_add 59 = .ok (.getfield 36, 3) := by decide +kernel
theorem d_MD_add_62 : decode b_MD_add 62 = .ok (.iload_n 2, 1) := by decide +kernel
theorem d_MD_add_63 : decode b_MD_add 63 = .ok (.iload_n 1, 1) := by decide +kernel
theorem d_MD_add_64 : decode b_MD_add 64 = .ok (.iastore, 1) := by decide +kernel
theorem d_MD_add_65 : decode b_MD_add 65 = .ok (.aload_n 0, 1) := by decide +kernel
theorem d_MD_add_66 : decode b_MD_add 66 = .ok (.dup, 1) := by decide +kernel
theorem d_MD_add_67 : decode b_MD_add 67 = .ok (.getfield 105, 3) := by decide +kernel
theorem d_MD_add_70 : decode b_MD_add 70 = .ok (.iconst 1, 1) := by decide +kernel
theorem d_MD_add_71 : decode b_MD_add 71 = .ok (.iadd, 1) := by decide +kernel
theorem d_MD_add_72 : decode b_MD_add 72 = .ok (.putfield 105, 3) := by decide +kernel
theorem d_MD_add_75 : decode b_MD_add 75 = .ok (.aload_n 0, 1) := by decide +kernel
theorem d_MD_add_76 : decode b_MD_add 76 = .ok (.iload_n 2, 1) := by decide +kernel
theorem d_MD_add_77 : decode b_MD_add 77 = .ok (.invokevirtual 112, 3) := by decide +kernel
theorem d_MD_add_80 : decode b_MD_add 80 = .ok (.istore_n 3, 1) := by decide +kernel
theorem d_MD_add_81 : decode b_MD_add 81 = .ok (.iload_n 2, 1) := by decide +kernel
theorem d_MD_add_82 : decode b_MD_add 82 = .ok (.ireturn, 1) := by decide +kernel
theorem d_MD_resend_0 : decode b_MD_resend 0 = .ok (.aload_n 0, 1) := by decide +kernel
theorem d_MD_resend_1 : decode b_MD_resend 1 = .ok (.iconst 0, 1) := by decide +kernel
theorem d_MD_resend_2 : decode b_MD_resend 2 = .ok (.putfield 69, 3) := by decide +kernel
theorem d_MD_resend_5 : decode b_MD_resend 5 = .ok (.aload_n 0, 1) := by decide +kernel
theorem d_MD_resend_6 : decode b_MD_resend 6 = .ok (.getfield 102, 3) := by decide +kernel
theorem d_MD_resend_9 : decode b_MD_resend 9 = .ok (.ifCond .ne 15, 3) := by decide +kernel
theorem d_MD_resend_12 : decode b_MD_resend 12 = .ok (.iload_n 1, 1) := by decide +kernel
theorem d_MD_resend_13 : decode b_MD_resend 13 = .ok (.ifCond .lt 11, 3) := by decide +kernel
theorem d_MD_resend_16 : decode b_MD_resend 16 = .ok (.iload_n 1, 1) := by decide +kernel
theorem d_MD_resend_17 : decode b_MD_resend 17 = .ok (.aload_n 0, 1) := by decide +kernel
theorem d_MD_resend_18 : decode b_MD_resend 18 = .ok (.getfield 105, 3) := by decide +kernel
theorem d_MD_resend_21 : decode b_MD_resend 21 = .ok (.if_icmp .lt 5, 3) := by decide +kernel
theorem d_MD_resend_24 : decode b_MD_resend 24 = .ok (.iconst (-1), 1) := by decide +kernel
theorem d_MD_resend_25 : decode b_MD_resend 25 = .ok (.ireturn, 1) := by decide +kernel
theorem d_MD_resend_26 : decode b_MD_resend 26 = .ok (.iload_n 1, 1) := by decide +kernel
theorem d_MD_resend_27 : decode b_MD_resend 27 = .ok (.aload_n 0, 1) := by decide +kernel
theorem d_MD_resend_28 : decode b_MD_resend 28 = .ok (.getfield 33, 3) := by decide +kernel
theorem d_MD_resend_31 : decode b_MD_resend 31 = .ok (.if_icmp .gt 19, 3) := by decide +kernel
theorem d_MD_resend_34 : decode b_MD_resend 34 = .ok (.aload_n 0, 1) := by decide +kernel
theorem d_MD_resend_35 : decode b_MD_resend 35 = .ok (.iload_n 1, 1) := by decide +kernel
theorem d_MD_resend_36 : decode b_MD_resend 36 = .ok (.invokevirtual 108, 3) := by decide +kernel
theorem d_MD_resend_39 : decode b_MD_resend 39 = .ok (.aload_n 0, 1) := by decide +kernel
theorem d_MD_resend_40 : decode b_MD_resend 40 = .ok (.getfield 63, 3) := by decide +kernel
theorem d_MD_resend_43 : decode b_MD_resend 43 = .ok (.if_icmp .ne 7, 3) := by decide +kernel
theorem d_MD_resend_46 : decode b_MD_resend 46 = .ok (.iconst (-1), 1) := by decide +kernel
theorem d_MD_resend_47 : decode b_MD_resend 47 = .ok (.goto 8, 3) := by decide +kernel
theorem d_MD_resend_50 : decode b_MD_resend 50 = .ok (.aload_n 0, 1) := by decide +kernel
theorem d_MD_resend_51 : decode b_MD_resend 51 = .ok (.iload_n 1, 1) := by decide +kernel
theorem d_MD_resend_52 : decode b_MD_resend 52 = .ok (.invokevirtual 112, 3) := by decide +kernel
theorem d_MD_resend_55 : decode b_MD_resend 55 = .ok (.ireturn, 1) := by decide +kernel
theorem d_MD_close_0 : decode b_MD_close 0 = .ok (.aload_n 0, 1) := by decide +kernel
theorem d_MD_close_1 : decode b_MD_close 1 = .ok (.iconst 0, 1) := by decide +kernel
theorem d_MD_close_2 : decode b_MD_close 2 = .ok (.putfield 69, 3) := by decide +kernel
theorem d_MD_close_5 : decode b_MD_close 5 = .ok (.aload_n 0, 1) := by decide +kernel
theorem d_MD_close_6 : decode b_MD_close 6 = .ok (.getfield 102, 3) := by decide +kernel
theorem d_MD_close_9 : decode b_MD_close 9 = .ok (.ifCond .ne 10, 3) := by decide +kernel
theorem d_MD_close_12 : decode b_MD_close 12 = .ok (.aload_n 0, 1) := by decide +kernel
theorem d_MD_close_13 : decode b_MD_close 13 = .ok (.getfield 115, 3) := by decide +kernel
theorem d_MD_close_16 : decode b_MD_close 16 = .ok (.ifCond .eq 5, 3) := by decide +kernel
theorem d_MD_close_19 : decode b_MD_close 19 = .ok (.iconst 0, 1) := by decide +kernel
theorem d_MD_close_20 : decode b_MD_close 20 = .ok (.ireturn, 1) := by decide +kernel
theorem d_MD_close_21 : decode b_MD_close 21 = .ok (.aload_n 0, 1) := by decide +kernel
theorem d_MD_close_22 : decode b_MD_close 22 = .ok (.iconst 2, 1) := by decide +kernel
theorem d_MD_close_23 : decode b_MD_close 23 = .ok (.putfield 115, 3) := by decide +kernel
theorem d_MD_close_26 : decode b_MD_close 26 = .ok (.aload_n 0, 1) := by decide +kernel
theorem d_MD_close_27 : decode b_MD_close 27 = .ok (.aload_n 0, 1) := by decide +kernel
theorem d_MD_close_28 : decode b_MD_close 28 = .ok (.getfield 33, 3) := by decide +kernel
theorem d_MD_close_31 : decode b_MD_close 31 = .ok (.putfield 26, 3) := by decide +kernel
theorem d_MD_close_34 : decode b_MD_close 34 = .ok (.aload_n 0, 1) := by decide +kernel
theorem d_MD_close_35 : decode b_MD_close 35 = .ok (.dup, 1) := by decide +kernel
theorem d_MD_close_36 : decode b_MD_close 36 = .ok (.getfield 118, 3) := by decide +kernel
theorem d_MD_close_39 : decode b_MD_close 39 = .ok (.iconst 1, 1) := by decide +kernel
theorem d_MD_close_40 : decode b_MD_close 40 = .ok (.iadd, 1) := by decide +kernel
theorem d_MD_close_41 : decode b_MD_close 41 = .ok (.putfield 118, 3) := by decide +kernel
theorem d_MD_close_44 : decode b_MD_close 44 = .ok (.aload_n 0, 1) := by decide +kernel
theorem d_MD_close_45 : decode b_MD_close 45 = .ok (.iconst 2, 1) := by decide +kernel
theorem d_MD_close_46 : decode b_MD_close 46 = .ok (.putfield 102, 3) := by decide +kernel
theorem d_MD_close_49 : decode b_MD_close 49 = .ok (.iconst 1, 1) := by decide +kernel
theorem d_MD_close_50 : decode b_MD_close 50 = .ok (.ireturn, 1) := by decide +kernel
theorem d_MD_leave_0 : decode b_MD_leave 0 = .ok (.aload_n 0, 1) := by decide +kernel
theorem d_MD_leave_1 : decode b_MD_leave 1 = .ok (.iconst 0, 1) := by decide +kernel
theorem d_MD_leave_2 : decode b_MD_leave 2 = .ok (.putfield 69, 3) := by decide +kernel
theorem d_MD_leave_5 : decode b_MD_leave 5 = .ok (.aload_n 0, 1) := by decide +kernel
theorem d_MD_leave_6 : decode b_MD_leave 6 = .ok (.getfield 102, 3) := by decide +kernel
theorem d_MD_leave_9 : decode b_MD_leave 9 = .ok (.iconst 3, 1) := by decide +kernel
theorem d_MD_leave_10 : decode b_MD_leave 10 = .ok (.if_icmp .ne 7, 3) := by decide +kernel
theorem d_MD_leave_13 : decode b_MD_leave 13 = .ok (.iconst 1, 1) := by decide +kernel
theorem d_MD_leave_14 : decode b_MD_leave 14 = .ok (.goto 4, 3) := by decide +kernel
theorem d_MD_leave_17 : decode b_MD_leave 17 = .ok (.iconst 0, 1) := by decide +kernel
theorem d_MD_leave_18 : decode b_MD_leave 18 = .ok (.istore_n 1, 1) := by decide +kernel
theorem d_MD_leave_19 : decode b_MD_leave 19 = .ok (.aload_n 0, 1) := by decide +kernel
theorem d_MD_leave_20 : decode b_MD_leave 20 = .ok (.iconst 3, 1) := by decide +kernel
theorem d_MD_leave_21 : decode b_MD_leave 21 = .ok (.putfield 102, 3) := by decide +kernel
theorem d_MD_leave_24 : decode b_MD_leave 24 = .ok (.iload_n 1, 1) := by decide +kernel
theorem d_MD_leave_25 : decode b_MD_leave 25 = .ok (.ifCond .ne 7, 3) := by decide +kernel
theorem d_MD_leave_28 : decode b_MD_leave 28 = .ok (.iconst 1, 1) := by decide +kernel
theorem d_MD_leave_29 : decode b_MD_leave 29 = .ok (.goto 4, 3) := by decide +kernel
end
section
theorem d_MD_leave_32 : decode b_MD_leave 32 = .ok (.iconst 0, 1) := by decide +kernel
theorem d_MD_leave_33 : decode b_MD_leave 33 = .ok (.ireturn, 1) := by decide +kernel
theorem d_MD_isRecoverer_0 : decode b_MD_isRecoverer 0 = .ok (.iload_n 0, 1) := by decide +kernel
theorem d_MD_isRecoverer_1 : decode b_MD_isRecoverer 1 = .ok (.iconst 1, 1) := by decide +kernel
theorem d_MD_isRecoverer_2 : decode b_MD_isRecoverer 2 = .ok (.if_icmp .eq 8, 3) := by decide +kernel
theorem d_MD_isRecoverer_5 : decode b_MD_isRecoverer 5 = .ok (.iload_n 0, 1) := by decide +kernel
theorem d_MD_isRecoverer_6 : decode b_MD_isRecoverer 6 = .ok (.iconst 2, 1) := by decide +kernel
theorem d_MD_isRecoverer_7 : decode b_MD_isRecoverer 7 = .ok (.if_icmp .ne 7, 3) := by decide +kernel
theorem d_MD_isRecoverer_10 : decode b_MD_isRecoverer 10 = .ok (.iconst 1, 1) := by decide +kernel
theorem d_MD_isRecoverer_11 : decode b_MD_isRecoverer 11 = .ok (.goto 4, 3) := by decide +kernel
theorem d_MD_isRecoverer_14 : decode b_MD_isRecoverer 14 = .ok (.iconst 0, 1) := by decide +kernel
theorem d_MD_isRecoverer_15 : decode b_MD_isRecoverer 15 = .ok (.ireturn, 1) := by decide +kernel
theorem d_MD_recover_0 : decode b_MD_recover 0 = .ok (.aload_n 0, 1) := by decide +kernel
theorem d_MD_recover_1 : decode b_MD_recover 1 = .ok (.iconst 0, 1) := by decide +kernel
theorem d_MD_recover_2 : decode b_MD_recover 2 = .ok (.putfield 69, 3) := by decide +kernel
theorem d_MD_recover_5 : decode b_MD_recover 5 = .ok (.iload_n 1, 1) := by decide +kernel
theorem d_MD_recover_6 : decode b_MD_recover 6 = .ok (.invokestatic 140, 3) := by decide +kernel
theorem d_MD_recover_9 : decode b_MD_recover 9 = .ok (.ifCond .ne 5, 3) := by decide +kernel
theorem d_MD_recover_12 : decode b_MD_recover 12 = .ok (.iconst 0, 1) := by decide +kernel
theorem d_MD_recover_13 : decode b_MD_recover 13 = .ok (.ireturn, 1) := by decide +kernel
theorem d_MD_recover_14 : decode b_MD_recover 14 = .ok (.aload_n 0, 1) := by decide +kernel
theorem d_MD_recover_15 : decode b_MD_recover 15 = .ok (.getfield 42, 3) := by decide +kernel
theorem d_MD_recover_18 : decode b_MD_recover 18 = .ok (.iload_n 1, 1) := by decide +kernel
theorem d_MD_recover_19 : decode b_MD_recover 19 = .ok (.iaload, 1) := by decide +kernel
theorem d_MD_recover_20 : decode b_MD_recover 20 = .ok (.ifCond .eq 5, 3) := by decide +kernel
theorem d_MD_recover_23 : decode b_MD_recover 23 = .ok (.iconst 0, 1) := by decide +kernel
theorem d_MD_recover_24 : decode b_MD_recover 24 = .ok (.ireturn, 1) := by decide +kernel
theorem d_MD_recover_25 : decode b_MD_recover 25 = .ok (.aload_n 0, 1) := by decide +kernel
theorem d_MD_recover_26 : decode b_MD_recover 26 = .ok (.getfield 115, 3) := by decide +kernel
theorem d_MD_recover_29 : decode b_MD_recover 29 = .ok (.iconst 2, 1) := by decide +kernel
theorem d_MD_recover_30 : decode b_MD_recover 30 = .ok (.if_icmp .ne 12, 3) := by decide +kernel
theorem d_MD_recover_33 : decode b_MD_recover 33 = .ok (.aload_n 0, 1) := by decide +kernel
theorem d_MD_recover_34 : decode b_MD_recover 34 = .ok (.getfield 42, 3) := by decide +kernel
theorem d_MD_recover_37 : decode b_MD_recover 37 = .ok (.iload_n 1, 1) := by decide +kernel
theorem d_MD_recover_38 : decode b_MD_recover 38 = .ok (.iconst 4, 1) := by decide +kernel
theorem d_MD_recover_39 : decode b_MD_recover 39 = .ok (.iastore, 1) := by decide +kernel
theorem d_MD_recover_40 : decode b_MD_recover 40 = .ok (.iconst 1, 1) := by decide +kernel
theorem d_MD_recover_41 : decode b_MD_recover 41 = .ok (.ireturn, 1) := by decide +kernel
theorem d_MD_recover_42 : decode b_MD_recover 42 = .ok (.aload_n 0, 1) := by decide +kernel
theorem d_MD_recover_43 : decode b_MD_recover 43 = .ok (.iconst 1, 1) := by decide +kernel
theorem d_MD_recover_44 : decode b_MD_recover 44 = .ok (.putfield 115, 3) := by decide +kernel
theorem d_MD_recover_47 : decode b_MD_recover 47 = .ok (.aload_n 0, 1) := by decide +kernel
theorem d_MD_recover_48 : decode b_MD_recover 48 = .ok (.dup, 1) := by decide +kernel
theorem d_MD_recover_49 : decode b_MD_recover 49 = .ok (.getfield 118, 3) := by decide +kernel
theorem d_MD_recover_52 : decode b_MD_recover 52 = .ok (.iconst 1, 1) := by decide +kernel
theorem d_MD_recover_53 : decode b_MD_recover 53 = .ok (.iadd, 1) := by decide +kernel
theorem d_MD_recover_54 : decode b_MD_recover 54 = .ok (.putfield 118, 3) := by decide +kernel
theorem d_MD_recover_57 : decode b_MD_recover 57 = .ok (.aload_n 0, 1) := by decide +kernel
theorem d_MD_recover_58 : decode b_MD_recover 58 = .ok (.getfield 45, 3) := by decide +kernel
theorem d_MD_recover_61 : decode b_MD_recover 61 = .ok (.iload_n 1, 1) := by decide +kernel
theorem d_MD_recover_62 : decode b_MD_recover 62 = .ok (.aload_n 0, 1) := by decide +kernel
theorem d_MD_recover_63 : decode b_MD_recover 63 = .ok (.getfield 118, 3) := by decide +kernel
theorem d_MD_recover_66 : decode b_MD_recover 66 = .ok (.iastore, 1) := by decide +kernel
theorem d_MD_recover_67 : decode b_MD_recover 67 = .ok (.aload_n 0, 1) := by decide +kernel
theorem d_MD_recover_68 : decode b_MD_recover 68 = .ok (.iload_n 1, 1) := by decide +kernel
theorem d_MD_recover_69 : decode b_MD_recover 69 = .ok (.invokevirtual 125, 3) := by decide +kernel
theorem d_MD_recover_72 : decode b_MD_recover 72 = .ok (.aload_n 0, 1) := by decide +kernel
theorem d_MD_recover_73 : decode b_MD_recover 73 = .ok (.getfield 51, 3) := by decide +kernel
theorem d_MD_recover_76 : decode b_MD_recover 76 = .ok (.iload_n 1, 1) := by decide +kernel
theorem d_MD_recover_77 : decode b_MD_recover 77 = .ok (.iconst (-1), 1) := by decide +kernel
theorem d_MD_recover_78 : decode b_MD_recover 78 = .ok (.iastore, 1) := by decide +kernel
theorem d_MD_recover_79 : decode b_MD_recover 79 = .ok (.aload_n 0, 1) := by decide +kernel
theorem d_MD_recover_80 : decode b_MD_recover 80 = .ok (.getfield 42, 3) := by decide +kernel
theorem d_MD_recover_83 : decode b_MD_recover 83 = .ok (.iload_n 1, 1) := by decide +kernel
theorem d_MD_recover_84 : decode b_MD_recover 84 = .ok (.iconst 1, 1) := by decide +kernel
theorem d_MD_recover_85 : decode b_MD_recover 85 = .ok (.iastore, 1) := by decide +kernel
theorem d_MD_recover_86 : decode b_MD_recover 86 = .ok (.aload_n 0, 1) := by decide +kernel
theorem d_MD_recover_87 : decode b_MD_recover 87 = .ok (.iload_n 1, 1) := by decide +kernel
theorem d_MD_recover_88 : decode b_MD_recover 88 = .ok (.invokevirtual 128, 3) := by decide +kernel
theorem d_MD_recover_91 : decode b_MD_recover 91 = .ok (.istore_n 2, 1) := by decide +kernel
theorem d_MD_recover_92 : decode b_MD_recover 92 = .ok (.iconst 1, 1) := by decide +kernel
theorem d_MD_recover_93 : decode b_MD_recover 93 = .ok (.ireturn, 1) := by decide +kernel
theorem d_MD_busy_0 : decode b_MD_busy 0 = .ok (.iload_n 1, 1) := by decide +kernel
theorem d_MD_busy_1 : decode b_MD_busy 1 = .ok (.invokestatic 140, 3) := by decide +kernel
theorem d_MD_busy_4 : decode b_MD_busy 4 = .ok (.ifCond .eq 48, 3) := by decide +kernel
theorem d_MD_busy_7 : decode b_MD_busy 7 = .ok (.aload_n 0, 1) := by decide +kernel
theorem d_MD_busy_8 : decode b_MD_busy 8 = .ok (.getfield 42, 3) := by decide +kernel
theorem d_MD_busy_11 : decode b_MD_busy 11 = .ok (.iload_n 1, 1) := by decide +kernel
theorem d_MD_busy_12 : decode b_MD_busy 12 = .ok (.invokestatic 140, 3) := by decide +kernel
theorem d_MD_busy_15 : decode b_MD_busy 15 = .ok (.ifCond .eq 7, 3) := by decide +kernel
theorem d_MD_busy_18 : decode b_MD_busy 18 = .ok (.iload_n 1, 1) := by decide +kernel
theorem d_MD_busy_19 : decode b_MD_busy 19 = .ok (.goto 4, 3) := by decide +kernel
theorem d_MD_busy_22 : decode b_MD_busy 22 = .ok (.iconst 0, 1) := by decide +kernel
theorem d_MD_busy_23 : decode b_MD_busy 23 = .ok (.iaload, 1) := by decide +kernel
theorem d_MD_busy_24 : decode b_MD_busy 24 = .ok (.ifCond .le 28, 3) := by decide +kernel
theorem d_MD_busy_27 : decode b_MD_busy 27 = .ok (.aload_n 0, 1) := by decide +kernel
theorem d_MD_busy_28 : decode b_MD_busy 28 = .ok (.getfield 42, 3) := by decide +kernel
theorem d_MD_busy_31 : decode b_MD_busy 31 = .ok (.iload_n 1, 1) := by decide +kernel
theorem d_MD_busy_32 : decode b_MD_busy 32 = .ok (.invokestatic 140, 3) := by decide +kernel
theorem d_MD_busy_35 : decode b_MD_busy 35 = .ok (.ifCond .eq 7, 3) := by decide +kernel
theorem d_MD_busy_38 : decode b_MD_busy 38 = .ok (.iload_n 1, 1) := by decide +kernel
theorem d_MD_busy_39 : decode b_MD_busy 39 = .ok (.goto 4, 3) := by decide +kernel
theorem d_MD_busy_42 : decode b_MD_busy 42 = .ok (.iconst 0, 1) := by decide +kernel
theorem d_MD_busy_43 : decode b_MD_busy 43 = .ok (.iaload, 1) := by decide +kernel
theorem d_MD_busy_44 : decode b_MD_busy 44 = .ok (.iconst 4, 1) := by decide +kernel
theorem d_MD_busy_45 : decode b_MD_busy 45 = .ok (.if_icmp .ge 7, 3) := by decide +kernel
theorem d_MD_busy_48 : decode b_MD_busy 48 = .ok (.iconst 1, 1) := by decide +kernel
theorem d_MD_busy_49 : decode b_MD_busy 49 = .ok (.goto 4, 3) := by decide +kernel
theorem d_MD_busy_52 : decode b_MD_busy 52 = .ok (.iconst 0, 1) := by decide +kernel
theorem d_MD_busy_53 : decode b_MD_busy 53 = .ok (.ireturn, 1) := by decide +kernel
theorem d_MD_retry_0 : decode b_MD_retry 0 = .ok (.aload_n 0, 1) := by decide +kernel
theorem d_MD_retry_1 : decode b_MD_retry 1 = .ok (.iconst 0, 1) := by decide +kernel
theorem d_MD_retry_2 : decode b_MD_retry 2 = .ok (.putfield 69, 3) := by decide +kernel
theorem d_MD_retry_5 : decode b_MD_retry 5 = .ok (.aload_n 0, 1) := by decide +kernel
theorem d_MD_retry_6 : decode b_MD_retry 6 = .ok (.iload_n 1, 1) := by decide +kernel
theorem d_MD_retry_7 : decode b_MD_retry 7 = .ok (.invokevirtual 143, 3) := by decide +kernel
theorem d_MD_retry_10 : decode b_MD_retry 10 = .ok (.ifCond .eq 11, 3) := by decide +kernel
theorem d_MD_retry_13 : decode b_MD_retry 13 = .ok (.aload_n 0, 1) := by decide +kernel
theorem d_MD_retry_14 : decode b_MD_retry 14 = .ok (.iload_n 1, 1) := by decide +kernel
theorem d_MD_retry_15 : decode b_MD_retry 15 = .ok (.invokevirtual 128, 3) := by decide +kernel
theorem d_MD_retry_18 : decode b_MD_retry 18 = .ok (.goto 4, 3) := by decide +kernel
theorem d_MD_retry_21 : decode b_MD_retry 21 = .ok (.iconst (-1), 1) := by decide +kernel
theorem d_MD_retry_22 : decode b_MD_retry 22 = .ok (.ireturn, 1) := by decide +kernel
theorem d_MD_abandon_0 : decode b_MD_abandon 0 = .ok (.aload_n 0, 1) := by decide +kernel
theorem d_MD_abandon_1 : decode b_MD_abandon 1 = .ok (.iconst 0, 1) := by decide +kernel
theorem d_MD_abandon_2 : decode b_MD_abandon 2 = .ok (.putfield 69, 3) := by decide +kernel
theorem d_MD_abandon_5 : decode b_MD_abandon 5 = .ok (.aload_n 0, 1) := by decide +kernel
theorem d_MD_abandon_6 : decode b_MD_abandon 6 = .ok (.iload_n 1, 1) := by decide +kernel
theorem d_MD_abandon_7 : decode b_MD_abandon 7 = .ok (.invokevirtual 143, 3) := by decide +kernel
theorem d_MD_abandon_10 : decode b_MD_abandon 10 = .ok (.ifCond .ne 5, 3) := by decide +kernel
theorem d_MD_abandon_13 : decode b_MD_abandon 13 = .ok (.iconst 0, 1) := by decide +kernel
theorem d_MD_abandon_14 : decode b_MD_abandon 14 = .ok (.ireturn, 1) := by decide +kernel
theorem d_MD_abandon_15 : decode b_MD_abandon 15 = .ok (.aload_n 0, 1) := by decide +kernel
theorem d_MD_abandon_16 : decode b_MD_abandon 16 = .ok (.getfield 42, 3) := by decide +kernel
theorem d_MD_abandon_19 : decode b_MD_abandon 19 = .ok (.iload_n 1, 1) := by decide +kernel
theorem d_MD_abandon_20 : decode b_MD_abandon 20 = .ok (.iconst 0, 1) := by decide +kernel
theorem d_MD_abandon_21 : decode b_MD_abandon 21 = .ok (.iastore, 1) := by decide +kernel
theorem d_MD_abandon_22 : decode b_MD_abandon 22 = .ok (.iconst 1, 1) := by decide +kernel
theorem d_MD_abandon_23 : decode b_MD_abandon 23 = .ok (.ireturn, 1) := by decide +kernel
theorem d_MD_isStore_0 : decode b_MD_isStore 0 = .ok (.iload_n 1, 1) := by decide +kernel
theorem d_MD_isStore_1 : decode b_MD_isStore 1 = .ok (.ifCond .lt 15, 3) := by decide +kernel
theorem d_MD_isStore_4 : decode b_MD_isStore 4 = .ok (.iload_n 1, 1) := by decide +kernel
theorem d_MD_isStore_5 : decode b_MD_isStore 5 = .ok (.aload_n 0, 1) := by decide +kernel
theorem d_MD_isStore_6 : decode b_MD_isStore 6 = .ok (.getfield 60, 3) := by decide +kernel
theorem d_MD_isStore_9 : decode b_MD_isStore 9 = .ok (.if_icmp .ge 7, 3) := by decide +kernel
theorem d_MD_isStore_12 : decode b_MD_isStore 12 = .ok (.iconst 1, 1) := by decide +kernel
theorem d_MD_isStore_13 : decode b_MD_isStore 13 = .ok (.goto 4, 3) := by decide +kernel
theorem d_MD_isStore_16 : decode b_MD_isStore 16 = .ok (.iconst 0, 1) := by decide +kernel
theorem d_MD_isStore_17 : decode b_MD_isStore 17 = .ok (.ireturn, 1) := by decide +kernel
theorem d_MD_power_0 : decode b_MD_power 0 = .ok (.aload_n 0, 1) := by decide +kernel
theorem d_MD_power_1 : decode b_MD_power 1 = .ok (.iconst 0, 1) := by decide +kernel
theorem d_MD_power_2 : decode b_MD_power 2 = .ok (.putfield 69, 3) := by decide +kernel
theorem d_MD_power_5 : decode b_MD_power 5 = .ok (.aload_n 0, 1) := by decide +kernel
theorem d_MD_power_6 : decode b_MD_power 6 = .ok (.iload_n 1, 1) := by decide +kernel
theorem d_MD_power_7 : decode b_MD_power 7 = .ok (.invokevirtual 146, 3) := by decide +kernel
theorem d_MD_power_10 : decode b_MD_power 10 = .ok (.ifCond .ne 5, 3) := by decide +kernel
theorem d_MD_power_13 : decode b_MD_power 13 = .ok (.iconst 0, 1) := by decide +kernel
theorem d_MD_power_14 : decode b_MD_power 14 = .ok (.ireturn, 1) := by decide +kernel
theorem d_MD_power_15 : decode b_MD_power 15 = .ok (.aload_n 0, 1) := by decide +kernel
theorem d_MD_power_16 : decode b_MD_power 16 = .ok (.getfield 7, 3) := by decide +kernel
theorem d_MD_power_19 : decode b_MD_power 19 = .ok (.iload_n 1, 1) := by decide +kernel
theorem d_MD_power_20 : decode b_MD_power 20 = .ok (.baload, 1) := by decide +kernel
theorem d_MD_power_21 : decode b_MD_power 21 = .ok (.iload_n 2, 1) := by decide +kernel
theorem d_MD_power_22 : decode b_MD_power 22 = .ok (.if_icmp .ne 7, 3) := by decide +kernel
theorem d_MD_power_25 : decode b_MD_power 25 = .ok (.iconst 1, 1) := by decide +kernel
theorem d_MD_power_26 : decode b_MD_power 26 = .ok (.goto 4, 3) := by decide +kernel
theorem d_MD_power_29 : decode b_MD_power 29 = .ok (.iconst 0, 1) := by decide +kernel
theorem d_MD_power_30 : decode b_MD_power 30 = .ok (.istore_n 3, 1) := by decide +kernel
theorem d_MD_power_31 : decode b_MD_power 31 = .ok (.aload_n 0, 1) := by decide +kernel
theorem d_MD_power_32 : decode b_MD_power 32 = .ok (.getfield 7, 3) := by decide +kernel
theorem d_MD_power_35 : decode b_MD_power 35 = .ok (.iload_n 1, 1) := by decide +kernel
theorem d_MD_power_36 : decode b_MD_power 36 = .ok (.iload_n 2, 1) := by decide +kernel
theorem d_MD_power_37 : decode b_MD_power 37 = .ok (.ifCond .ne 7, 3) := by decide +kernel
theorem d_MD_power_40 : decode b_MD_power 40 = .ok (.iconst 1, 1) := by decide +kernel
theorem d_MD_power_41 : decode b_MD_power 41 = .ok (.goto 4, 3) := by decide +kernel
theorem d_MD_power_44 : decode b_MD_power 44 = .ok (.iconst 0, 1) := by decide +kernel
theorem d_MD_power_45 : decode b_MD_power 45 = .ok (.bastore, 1) := by decide +kernel
theorem d_MD_power_46 : decode b_MD_power 46 = .ok (.iload_n 3, 1) := by decide +kernel
theorem d_MD_power_47 : decode b_MD_power 47 = .ok (.ireturn, 1) := by decide +kernel
theorem d_MD_store_0 : decode b_MD_store 0 = .ok (.aload_n 0, 1) := by decide +kernel
theorem d_MD_store_1 : decode b_MD_store 1 = .ok (.iconst 0, 1) := by decide +kernel
theorem d_MD_store_2 : decode b_MD_store 2 = .ok (.putfield 69, 3) := by decide +kernel
theorem d_MD_store_5 : decode b_MD_store 5 = .ok (.aload_n 0, 1) := by decide +kernel
theorem d_MD_store_6 : decode b_MD_store 6 = .ok (.iload_n 1, 1) := by decide +kernel
theorem d_MD_store_7 : decode b_MD_store 7 = .ok (.invokevirtual 146, 3) := by decide +kernel
theorem d_MD_store_10 : decode b_MD_store 10 = .ok (.ifCond .eq 12, 3) := by decide +kernel
theorem d_MD_store_13 : decode b_MD_store 13 = .ok (.iload_n 2, 1) := by decide +kernel
theorem d_MD_store_14 : decode b_MD_store 14 = .ok (.ifCond .lt 8, 3) := by decide +kernel
theorem d_MD_store_17 : decode b_MD_store 17 = .ok (.iload_n 2, 1) := by decide +kernel
theorem d_MD_store_18 : decode b_MD_store 18 = .ok (.iconst 3, 1) := by decide +kernel
theorem d_MD_store_19 : decode b_MD_store 19 = .ok (.if_icmp .le 5, 3) := by decide +kernel
theorem d_MD_store_22 : decode b_MD_store 22 = .ok (.iconst (-1), 1) := by decide +kernel
theorem d_MD_store_23 : decode b_MD_store 23 = .ok (.ireturn, 1) := by decide +kernel
theorem d_MD_store_24 : decode b_MD_store 24 = .ok (.iload_n 2, 1) := by decide +kernel
theorem d_MD_store_25 : decode b_MD_store 25 = .ok (.iconst 3, 1) := by decide +kernel
theorem d_MD_store_26 : decode b_MD_store 26 = .ok (.if_icmp .ne 46, 3) := by decide +kernel
theorem d_MD_store_29 : decode b_MD_store 29 = .ok (.iconst 0, 1) := by decide +kernel
theorem d_MD_store_30 : decode b_MD_store 30 = .ok (.istore_n 3, 1) := by decide +kernel
theorem d_MD_store_31 : decode b_MD_store 31 = .ok (.iconst 0, 1) := by decide +kernel
theorem d_MD_store_32 : decode b_MD_store 32 = .ok (.istore 4, 2) := by decide +kernel
theorem d_MD_store_34 : decode b_MD_store 34 = .ok (.iload 4, 2) := by decide +kernel
theorem d_MD_store_36 : decode b_MD_store 36 = .ok (.bipush 20, 2) := by decide +kernel
theorem d_MD_store_38 : decode b_MD_store 38 = .ok (.if_icmp .ge 32, 3) := by decide +kernel
theorem d_MD_store_41 : decode b_MD_store 41 = .ok (.iload_n 3, 1) := by decide +kernel
theorem d_MD_store_42 : decode b_MD_store 42 = .ok (.aload_n 0, 1) := by decide +kernel
theorem d_MD_store_43 : decode b_MD_store 43 = .ok (.getfield 20, 3) := by decide +kernel
theorem d_MD_store_46 : decode b_MD_store 46 = .ok (.bipush 20, 2) := by decide +kernel
theorem d_MD_store_48 : decode b_MD_store 48 = .ok (.iload_n 1, 1) := by decide +kernel
theorem d_MD_store_49 : decode b_MD_store 49 = .ok (.imul, 1) := by decide +kernel
theorem d_MD_store_50 : decode b_MD_store 50 = .ok (.iload 4, 2) := by decide +kernel
theorem d_MD_store_52 : decode b_MD_store 52 = .ok (.iadd, 1) := by decide +kernel
theorem d_MD_store_53 : decode b_MD_store 53 = .ok (.baload, 1) := by decide +kernel
theorem d_MD_store_54 : decode b_MD_store 54 = .ok (.ifCond .eq 7, 3) := by decide +kernel
theorem d_MD_store_57 : decode b_MD_store 57 = .ok (.iconst 1, 1) := by decide +kernel
theorem d_MD_store_58 : decode b_MD_store 58 = .ok (.goto 4, 3) := by decide +kernel
theorem d_MD_store_61 : decode b_MD_store 61 = .ok (.iconst 0, 1) := by decide +kernel
theorem d_MD_store_62 : decode b_MD_store 62 = .ok (.iadd, 1) := by decide +kernel
theorem d_MD_store_63 : decode b_MD_store 63 = .ok (.istore_n 3, 1) := by decide +kernel
theorem d_MD_store_64 : decode b_MD_store 64 = .ok (.iinc 4 1, 3) := by decide +kernel
theorem d_MD_store_67 : decode b_MD_store 67 = .ok (.goto (-33), 3) := by decide +kernel
theorem d_MD_store_70 : decode b_MD_store 70 = .ok (.iload_n 3, 1) := by decide +kernel
theorem d_MD_store_71 : decode b_MD_store 71 = .ok (.ireturn, 1) := by decide +kernel
theorem d_MD_store_72 : decode b_MD_store 72 = .ok (.iload_n 2, 1) := by decide +kernel
theorem d_MD_store_73 : decode b_MD_store 73 = .ok (.ifCond .ne 20, 3) := by decide +kernel
theorem d_MD_store_76 : decode b_MD_store 76 = .ok (.aload_n 0, 1) := by decide +kernel
theorem d_MD_store_77 : decode b_MD_store 77 = .ok (.getfield 7, 3) := by decide +kernel
theorem d_MD_store_80 : decode b_MD_store 80 = .ok (.iload_n 1, 1) := by decide +kernel
theorem d_MD_store_81 : decode b_MD_store 81 = .ok (.baload, 1) := by decide +kernel
theorem d_MD_store_82 : decode b_MD_store 82 = .ok (.ifCond .eq 7, 3) := by decide +kernel
theorem d_MD_store_85 : decode b_MD_store 85 = .ok (.iconst 0, 1) := by decide +kernel
theorem d_MD_store_86 : decode b_MD_store 86 = .ok (.goto 35, 3) := by decide +kernel
theorem d_MD_store_89 : decode b_MD_store 89 = .ok (.iconst 1, 1) := by decide +kernel
theorem d_MD_store_90 : decode b_MD_store 90 = .ok (.goto 31, 3) := by decide +kernel
theorem d_MD_store_93 : decode b_MD_store 93 = .ok (.iload_n 2, 1) := by decide +kernel
theorem d_MD_store_94 : decode b_MD_store 94 = .ok (.iconst 1, 1) := by decide +kernel
theorem d_MD_store_95 : decode b_MD_store 95 = .ok (.if_icmp .ne 20, 3) := by decide +kernel
theorem d_MD_store_98 : decode b_MD_store 98 = .ok (.aload_n 0, 1) := by decide +kernel
theorem d_MD_store_99 : decode b_MD_store 99 = .ok (.getfield 13, 3) := by decide +kernel
theorem d_MD_store_102 : decode b_MD_store 102 = .ok (.iload_n 1, 1) := by decide +kernel
theorem d_MD_store_103 : decode b_MD_store 103 = .ok (.baload, 1) := by decide +kernel
theorem d_MD_store_104 : decode b_MD_store 104 = .ok (.ifCond .eq 7, 3) := by decide +kernel
theorem d_MD_store_107 : decode b_MD_store 107 = .ok (.iconst 1, 1) := by decide +kernel
theorem d_MD_store_108 : decode b_MD_store 108 = .ok (.goto 13, 3) := by decide +kernel
theorem d_MD_store_111 : decode b_MD_store 111 = .ok (.iconst 0, 1) := by decide +kernel
theorem d_MD_store_112 : decode b_MD_store 112 = .ok (.goto 9, 3) := by decide +kernel
theorem d_MD_store_115 : decode b_MD_store 115 = .ok (.aload_n 0, 1) := by decide +kernel
theorem d_MD_store_116 : decode b_MD_store 116 = .ok (.getfield 16, 3) := by decide +kernel
theorem d_MD_store_119 : decode b_MD_store 119 = .ok (.iload_n 1, 1) := by decide +kernel
theorem d_MD_store_120 : decode b_MD_store 120 = .ok (.iaload, 1) := by decide +kernel
theorem d_MD_store_121 : decode b_MD_store 121 = .ok (.ireturn, 1) := by decide +kernel
theorem d_MD_has_0 : decode b_MD_has 0 = .ok (.aload_n 0, 1) := by decide +kernel
theorem d_MD_has_1 : decode b_MD_has 1 = .ok (.iconst 0, 1) := by decide +kernel
theorem d_MD_has_2 : decode b_MD_has 2 = .ok (.putfield 69, 3) := by decide +kernel
theorem d_MD_has_5 : decode b_MD_has 5 = .ok (.aload_n 0, 1) := by decide +kernel
theorem d_MD_has_6 : decode b_MD_has 6 = .ok (.iload_n 1, 1) := by decide +kernel
theorem d_MD_has_7 : decode b_MD_has 7 = .ok (.invokevirtual 146, 3) := by decide +kernel
theorem d_MD_has_10 : decode b_MD_has 10 = .ok (.ifCond .eq 53, 3) := by decide +kernel
theorem d_MD_has_13 : decode b_MD_has 13 = .ok (.iload_n 2, 1) := by decide +kernel
theorem d_MD_has_14 : decode b_MD_has 14 = .ok (.ifCond .lt 49, 3) := by decide +kernel
theorem d_MD_has_17 : decode b_MD_has 17 = .ok (.iload_n 2, 1) := by decide +kernel
theorem d_MD_has_18 : decode b_MD_has 18 = .ok (.bipush 20, 2) := by decide +kernel
theorem d_MD_has_20 : decode b_MD_has 20 = .ok (.if_icmp .ge 43, 3) := by decide +kernel
theorem d_MD_has_23 : decode b_MD_has 23 = .ok (.aload_n 0, 1) := by decide +kernel
theorem d_MD_has_24 : decode b_MD_has 24 = .ok (.getfield 20, 3) := by decide +kernel
theorem d_MD_has_27 : decode b_MD_has 27 = .ok (.aload_n 0, 1) := by decide +kernel
theorem d_MD_has_28 : decode b_MD_has 28 = .ok (.iload_n 1, 1) := by decide +kernel
theorem d_MD_has_29 : decode b_MD_has 29 = .ok (.invokevirtual 146, 3) := by decide +kernel
theorem d_MD_has_32 : decode b_MD_has 32 = .ok (.ifCond .eq 22, 3) := by decide +kernel
theorem d_MD_has_35 : decode b_MD_has 35 = .ok (.iload_n 2, 1) := by decide +kernel
theorem d_MD_has_36 : decode b_MD_has 36 = .ok (.ifCond .lt 18, 3) := by decide +kernel
theorem d_MD_has_39 : decode b_MD_has 39 = .ok (.iload_n 2, 1) := by decide +kernel
theorem d_MD_has_40 : decode b_MD_has 40 = .ok (.bipush 20, 2) := by decide +kernel
theorem d_MD_has_42 : decode b_MD_has 42 = .ok (.if_icmp .ge 12, 3) := by decide +kernel
theorem d_MD_has_45 : decode b_MD_has 45 = .ok (.bipush 20, 2) := by decide +kernel
theorem d_MD_has_47 : decode b_MD_has 47 = .ok (.iload_n 1, 1) := by decide +kernel
theorem d_MD_has_48 : decode b_MD_has 48 = .ok (.imul, 1) := by decide +kernel
theorem d_MD_has_49 : decode b_MD_has 49 = .ok (.iload_n 2, 1) := by decide +kernel
theorem d_MD_has_50 : decode b_MD_has 50 = .ok (.iadd, 1) := by decide +kernel
theorem d_MD_has_51 : decode b_MD_has 51 = .ok (.goto 4, 3) := by decide +kernel
theorem d_MD_has_54 : decode b_MD_has 54 = .ok (.iconst 0, 1) := by decide +kernel
theorem d_MD_has_55 : decode b_MD_has 55 = .ok (.baload, 1) := by decide +kernel
theorem d_MD_has_56 : decode b_MD_has 56 = .ok (.ifCond .eq 7, 3) := by decide +kernel
theorem d_MD_has_59 : decode b_MD_has 59 = .ok (.iconst 1, 1) := by decide +kernel
theorem d_MD_has_60 : decode b_MD_has 60 = .ok (.goto 4, 3) := by decide +kernel
theorem d_MD_has_63 : decode b_MD_has 63 = .ok (.iconst 0, 1) := by decide +kernel
theorem d_MD_has_64 : decode b_MD_has 64 = .ok (.ireturn, 1) := by decide +kernel
theorem d_MD_writer_0 : decode b_MD_writer 0 = .ok (.aload_n 0, 1) := by decide +kernel
theorem d_MD_writer_1 : decode b_MD_writer 1 = .ok (.iconst 0, 1) := by decide +kernel
theorem d_MD_writer_2 : decode b_MD_writer 2 = .ok (.putfield 69, 3) := by decide +kernel
theorem d_MD_writer_5 : decode b_MD_writer 5 = .ok (.iload_n 1, 1) := by decide +kernel
theorem d_MD_writer_6 : decode b_MD_writer 6 = .ok (.ifCond .ne 10, 3) := by decide +kernel
theorem d_MD_writer_9 : decode b_MD_writer 9 = .ok (.aload_n 0, 1) := by decide +kernel
theorem d_MD_writer_10 : decode b_MD_writer 10 = .ok (.getfield 102, 3) := by decide +kernel
theorem d_MD_writer_13 : decode b_MD_writer 13 = .ok (.goto 28, 3) := by decide +kernel
theorem d_MD_writer_16 : decode b_MD_writer 16 = .ok (.iload_n 1, 1) := by decide +kernel
theorem d_MD_writer_17 : decode b_MD_writer 17 = .ok (.iconst 1, 1) := by decide +kernel
theorem d_MD_writer_18 : decode b_MD_writer 18 = .ok (.if_icmp .ne 10, 3) := by decide +kernel
theorem d_MD_writer_21 : decode b_MD_writer 21 = .ok (.aload_n 0, 1) := by decide +kernel
theorem d_MD_writer_22 : decode b_MD_writer 22 = .ok (.getfield 105, 3) := by decide +kernel
theorem d_MD_writer_25 : decode b_MD_writer 25 = .ok (.goto 16, 3) := by decide +kernel
theorem d_MD_writer_28 : decode b_MD_writer 28 = .ok (.iload_n 1, 1) := by decide +kernel
theorem d_MD_writer_29 : decode b_MD_writer 29 = .ok (.iconst 2, 1) := by decide +kernel
theorem d_MD_writer_30 : decode b_MD_writer 30 = .ok (.if_icmp .ne 10, 3) := by decide +kernel
theorem d_MD_writer_33 : decode b_MD_writer 33 = .ok (.aload_n 0, 1) := by decide +kernel
theorem d_MD_writer_34 : decode b_MD_writer 34 = .ok (.getfield 33, 3) := by decide +kernel
theorem d_MD_writer_37 : decode b_MD_writer 37 = .ok (.goto 4, 3) := by decide +kernel
theorem d_MD_writer_40 : decode b_MD_writer 40 = .ok (.iconst (-1), 1) := by decide +kernel
theorem d_MD_writer_41 : decode b_MD_writer 41 = .ok (.ireturn, 1) := by decide +kernel
theorem d_MD_answers_0 : decode b_MD_answers 0 = .ok (.aload_n 0, 1) := by decide +kernel
theorem d_MD_answers_1 : decode b_MD_answers 1 = .ok (.iconst 0, 1) := by decide +kernel
theorem d_MD_answers_2 : decode b_MD_answers 2 = .ok (.putfield 69, 3) := by decide +kernel
theorem d_MD_answers_5 : decode b_MD_answers 5 = .ok (.iload_n 1, 1) := by decide +kernel
theorem d_MD_answers_6 : decode b_MD_answers 6 = .ok (.ifCond .lt 11, 3) := by decide +kernel
theorem d_MD_answers_9 : decode b_MD_answers 9 = .ok (.iload_n 1, 1) := by decide +kernel
theorem d_MD_answers_10 : decode b_MD_answers 10 = .ok (.aload_n 0, 1) := by decide +kernel
theorem d_MD_answers_11 : decode b_MD_answers 11 = .ok (.getfield 105, 3) := by decide +kernel
theorem d_MD_answers_14 : decode b_MD_answers 14 = .ok (.if_icmp .lt 7, 3) := by decide +kernel
theorem d_MD_answers_17 : decode b_MD_answers 17 = .ok (.iconst (-1), 1) := by decide +kernel
theorem d_MD_answers_18 : decode b_MD_answers 18 = .ok (.goto 8, 3) := by decide +kernel
theorem d_MD_answers_21 : decode b_MD_answers 21 = .ok (.aload_n 0, 1) := by decide +kernel
theorem d_MD_answers_22 : decode b_MD_answers 22 = .ok (.iload_n 1, 1) := by decide +kernel
theorem d_MD_answers_23 : decode b_MD_answers 23 = .ok (.invokevirtual 108, 3) := by decide +kernel
theorem d_MD_answers_26 : decode b_MD_answers 26 = .ok (.ireturn, 1) := by decide +kernel
theorem d_MD_recoverer_0 : decode b_MD_recoverer 0 = .ok (.aload_n 0, 1) := by decide +kernel
theorem d_MD_recoverer_1 : decode b_MD_recoverer 1 = .ok (.iconst 0, 1) := by decide +kernel
theorem d_MD_recoverer_2 : decode b_MD_recoverer 2 = .ok (.putfield 69, 3) := by decide +kernel
theorem d_MD_recoverer_5 : decode b_MD_recoverer 5 = .ok (.iload_n 1, 1) := by decide +kernel
theorem d_MD_recoverer_6 : decode b_MD_recoverer 6 = .ok (.invokestatic 140, 3) := by decide +kernel
theorem d_MD_recoverer_9 : decode b_MD_recoverer 9 = .ok (.ifCond .ne 5, 3) := by decide +kernel
theorem d_MD_recoverer_12 : decode b_MD_recoverer 12 = .ok (.iconst (-1), 1) := by decide +kernel
theorem d_MD_recoverer_13 : decode b_MD_recoverer 13 = .ok (.ireturn, 1) := by decide +kernel
theorem d_MD_recoverer_14 : decode b_MD_recoverer 14 = .ok (.iload_n 2, 1) := by decide +kernel
theorem d_MD_recoverer_15 : decode b_MD_recoverer 15 = .ok (.tableswitch 67 0 4 #[33, 40, 47, 54, 60], 33) := by decide +kernel
theorem d_MD_recoverer_48 : decode b_MD_recoverer 48 = .ok (.aload_n 0, 1) := by decide +kernel
theorem d_MD_recoverer_49 : decode b_MD_recoverer 49 = .ok (.getfield 42, 3) := by decide +kernel
theorem d_MD_recoverer_52 : decode b_MD_recoverer 52 = .ok (.iload_n 1, 1) := by decide +kernel
theorem d_MD_recoverer_53 : decode b_MD_recoverer 53 = .ok (.iaload, 1) := by decide +kernel
theorem d_MD_recoverer_54 : decode b_MD_recoverer 54 = .ok (.ireturn, 1) := by decide +kernel
theorem d_MD_recoverer_55 : decode b_MD_recoverer 55 = .ok (.aload_n 0, 1) := by decide +kernel
theorem d_MD_recoverer_56 : decode b_MD_recoverer 56 = .ok (.getfield 45, 3) := by decide +kernel
theorem d_MD_recoverer_59 : decode b_MD_recoverer 59 = .ok (.iload_n 1, 1) := by decide +kernel
theorem d_MD_recoverer_60 : decode b_MD_recoverer 60 = .ok (.iaload, 1) := by decide +kernel
theorem d_MD_recoverer_61 : decode b_MD_recoverer 61 = .ok (.ireturn, 1) := by decide +kernel
theorem d_MD_recoverer_62 : decode b_MD_recoverer 62 = .ok (.aload_n 0, 1) := by decide +kernel
theorem d_MD_recoverer_63 : decode b_MD_recoverer 63 = .ok (.getfield 48, 3) := by decide +kernel
theorem d_MD_recoverer_66 : decode b_MD_recoverer 66 = .ok (.iload_n 1, 1) := by decide +kernel
theorem d_MD_recoverer_67 : decode b_MD_recoverer 67 = .ok (.iaload, 1) := by decide +kernel
theorem d_MD_recoverer_68 : decode b_MD_recoverer 68 = .ok (.ireturn, 1) := by decide +kernel
theorem d_MD_recoverer_69 : decode b_MD_recoverer 69 = .ok (.aload_n 0, 1) := by decide +kernel
theorem d_MD_recoverer_70 : decode b_MD_recoverer 70 = .ok (.iload_n 1, 1) := by decide +kernel
theorem d_MD_recoverer_71 : decode b_MD_recoverer 71 = .ok (.invokevirtual 137, 3) := by decide +kernel
theorem d_MD_recoverer_74 : decode b_MD_recoverer 74 = .ok (.ireturn, 1) := by decide +kernel
theorem d_MD_recoverer_75 : decode b_MD_recoverer 75 = .ok (.aload_n 0, 1) := by decide +kernel
theorem d_MD_recoverer_76 : decode b_MD_recoverer 76 = .ok (.getfield 51, 3) := by decide +kernel
theorem d_MD_recoverer_79 : decode b_MD_recoverer 79 = .ok (.iload_n 1, 1) := by decide +kernel
theorem d_MD_recoverer_80 : decode b_MD_recoverer 80 = .ok (.iaload, 1) := by decide +kernel
theorem d_MD_recoverer_81 : decode b_MD_recoverer 81 = .ok (.ireturn, 1) := by decide +kernel
theorem d_MD_recoverer_82 : decode b_MD_recoverer 82 = .ok (.iconst (-1), 1) := by decide +kernel
theorem d_MD_recoverer_83 : decode b_MD_recoverer 83 = .ok (.ireturn, 1) := by decide +kernel
theorem d_MD_ledger_0 : decode b_MD_ledger 0 = .ok (.aload_n 0, 1) := by decide +kernel
theorem d_MD_ledger_1 : decode b_MD_ledger 1 = .ok (.iconst 0, 1) := by decide +kernel
theorem d_MD_ledger_2 : decode b_MD_ledger 2 = .ok (.putfield 69, 3) := by decide +kernel
theorem d_MD_ledger_5 : decode b_MD_ledger 5 = .ok (.iload_n 1, 1) := by decide +kernel
theorem d_MD_ledger_6 : decode b_MD_ledger 6 = .ok (.ifCond .ne 10, 3) := by decide +kernel
theorem d_MD_ledger_9 : decode b_MD_ledger 9 = .ok (.aload_n 0, 1) := by decide +kernel
theorem d_MD_ledger_10 : decode b_MD_ledger 10 = .ok (.getfield 115, 3) := by decide +kernel
theorem d_MD_ledger_13 : decode b_MD_ledger 13 = .ok (.goto 36, 3) := by decide +kernel
theorem d_MD_ledger_16 : decode b_MD_ledger 16 = .ok (.iload_n 1, 1) := by decide +kernel
theorem d_MD_ledger_17 : decode b_MD_ledger 17 = .ok (.iconst 1, 1) := by decide +kernel
theorem d_MD_ledger_18 : decode b_MD_ledger 18 = .ok (.if_icmp .ne 10, 3) := by decide +kernel
theorem d_MD_ledger_21 : decode b_MD_ledger 21 = .ok (.aload_n 0, 1) := by decide +kernel
theorem d_MD_ledger_22 : decode b_MD_ledger 22 = .ok (.getfield 118, 3) := by decide +kernel
theorem d_MD_ledger_25 : decode b_MD_ledger 25 = .ok (.goto 24, 3) := by decide +kernel
theorem d_MD_ledger_28 : decode b_MD_ledger 28 = .ok (.iload_n 1, 1) := by decide +kernel
theorem d_MD_ledger_29 : decode b_MD_ledger 29 = .ok (.iconst 2, 1) := by decide +kernel
theorem d_MD_ledger_30 : decode b_MD_ledger 30 = .ok (.if_icmp .ne 18, 3) := by decide +kernel
theorem d_MD_ledger_33 : decode b_MD_ledger 33 = .ok (.aload_n 0, 1) := by decide +kernel
theorem d_MD_ledger_34 : decode b_MD_ledger 34 = .ok (.getfield 115, 3) := by decide +kernel
theorem d_MD_ledger_37 : decode b_MD_ledger 37 = .ok (.iconst 2, 1) := by decide +kernel
theorem d_MD_ledger_38 : decode b_MD_ledger 38 = .ok (.if_icmp .ne 10, 3) := by decide +kernel
theorem d_MD_ledger_41 : decode b_MD_ledger 41 = .ok (.aload_n 0, 1) := by decide +kernel
theorem d_MD_ledger_42 : decode b_MD_ledger 42 = .ok (.getfield 26, 3) := by decide +kernel
theorem d_MD_ledger_45 : decode b_MD_ledger 45 = .ok (.goto 4, 3) := by decide +kernel
theorem d_MD_ledger_48 : decode b_MD_ledger 48 = .ok (.iconst (-1), 1) := by decide +kernel
theorem d_MD_ledger_49 : decode b_MD_ledger 49 = .ok (.ireturn, 1) := by decide +kernel
theorem d_MD_read_0 : decode b_MD_read 0 = .ok (.aload_n 0, 1) := by decide +kernel
theorem d_MD_read_1 : decode b_MD_read 1 = .ok (.aload_n 0, 1) := by decide +kernel
theorem d_MD_read_2 : decode b_MD_read 2 = .ok (.getfield 115, 3) := by decide +kernel
theorem d_MD_read_5 : decode b_MD_read 5 = .ok (.iconst 2, 1) := by decide +kernel
theorem d_MD_read_6 : decode b_MD_read 6 = .ok (.if_icmp .eq 7, 3) := by decide +kernel
theorem d_MD_read_9 : decode b_MD_read 9 = .ok (.iconst 1, 1) := by decide +kernel
theorem d_MD_read_10 : decode b_MD_read 10 = .ok (.goto 20, 3) := by decide +kernel
theorem d_MD_read_13 : decode b_MD_read 13 = .ok (.iload_n 1, 1) := by decide +kernel
theorem d_MD_read_14 : decode b_MD_read 14 = .ok (.ifCond .lt 11, 3) := by decide +kernel
theorem d_MD_read_17 : decode b_MD_read 17 = .ok (.iload_n 1, 1) := by decide +kernel
theorem d_MD_read_18 : decode b_MD_read 18 = .ok (.aload_n 0, 1) := by decide +kernel
theorem d_MD_read_19 : decode b_MD_read 19 = .ok (.getfield 26, 3) := by decide +kernel
theorem d_MD_read_22 : decode b_MD_read 22 = .ok (.if_icmp .le 7, 3) := by decide +kernel
theorem d_MD_read_25 : decode b_MD_read 25 = .ok (.iconst 2, 1) := by decide +kernel
theorem d_MD_read_26 : decode b_MD_read 26 = .ok (.goto 4, 3) := by decide +kernel
theorem d_MD_read_29 : decode b_MD_read 29 = .ok (.iconst 3, 1) := by decide +kernel
theorem d_MD_read_30 : decode b_MD_read 30 = .ok (.putfield 69, 3) := by decide +kernel
theorem d_MD_read_33 : decode b_MD_read 33 = .ok (.aload_n 0, 1) := by decide +kernel
theorem d_MD_read_34 : decode b_MD_read 34 = .ok (.getfield 69, 3) := by decide +kernel
theorem d_MD_read_37 : decode b_MD_read 37 = .ok (.iconst 3, 1) := by decide +kernel
theorem d_MD_read_38 : decode b_MD_read 38 = .ok (.if_icmp .ge 5, 3) := by decide +kernel
theorem d_MD_read_41 : decode b_MD_read 41 = .ok (.iconst 0, 1) := by decide +kernel
theorem d_MD_read_42 : decode b_MD_read 42 = .ok (.ireturn, 1) := by decide +kernel
theorem d_MD_read_43 : decode b_MD_read 43 = .ok (.iconst 0, 1) := by decide +kernel
theorem d_MD_read_44 : decode b_MD_read 44 = .ok (.istore_n 2, 1) := by decide +kernel
theorem d_MD_read_45 : decode b_MD_read 45 = .ok (.iload_n 2, 1) := by decide +kernel
theorem d_MD_read_46 : decode b_MD_read 46 = .ok (.aload_n 0, 1) := by decide +kernel
theorem d_MD_read_47 : decode b_MD_read 47 = .ok (.getfield 63, 3) := by decide +kernel
theorem d_MD_read_50 : decode b_MD_read 50 = .ok (.if_icmp .ge 58, 3) := by decide +kernel
theorem d_MD_read_53 : decode b_MD_read 53 = .ok (.iload_n 1, 1) := by decide +kernel
theorem d_MD_read_54 : decode b_MD_read 54 = .ok (.iload_n 2, 1) := by decide +kernel
theorem d_MD_read_55 : decode b_MD_read 55 = .ok (.iadd, 1) := by decide +kernel
theorem d_MD_read_56 : decode b_MD_read 56 = .ok (.aload_n 0, 1) := by decide +kernel
theorem d_MD_read_57 : decode b_MD_read 57 = .ok (.getfield 60, 3) := by decide +kernel
theorem d_MD_read_60 : decode b_MD_read 60 = .ok (.irem, 1) := by decide +kernel
theorem d_MD_read_61 : decode b_MD_read 61 = .ok (.istore_n 3, 1) := by decide +kernel
theorem d_MD_read_62 : decode b_MD_read 62 = .ok (.aload_n 0, 1) := by decide +kernel
theorem d_MD_read_63 : decode b_MD_read 63 = .ok (.getfield 7, 3) := by decide +kernel
theorem d_MD_read_66 : decode b_MD_read 66 = .ok (.iload_n 3, 1) := by decide +kernel
theorem d_MD_read_67 : decode b_MD_read 67 = .ok (.baload, 1) := by decide +kernel
theorem d_MD_read_68 : decode b_MD_read 68 = .ok (.ifCond .ne 34, 3) := by decide +kernel
theorem d_MD_read_71 : decode b_MD_read 71 = .ok (.aload_n 0, 1) := by decide +kernel
theorem d_MD_read_72 : decode b_MD_read 72 = .ok (.getfield 20, 3) := by decide +kernel
theorem d_MD_read_75 : decode b_MD_read 75 = .ok (.bipush 20, 2) := by decide +kernel
theorem d_MD_read_77 : decode b_MD_read 77 = .ok (.iload_n 3, 1) := by decide +kernel
theorem d_MD_read_78 : decode b_MD_read 78 = .ok (.imul, 1) := by decide +kernel
theorem d_MD_read_79 : decode b_MD_read 79 = .ok (.iload_n 1, 1) := by decide +kernel
theorem d_MD_read_80 : decode b_MD_read 80 = .ok (.iadd, 1) := by decide +kernel
theorem d_MD_read_81 : decode b_MD_read 81 = .ok (.baload, 1) := by decide +kernel
theorem d_MD_read_82 : decode b_MD_read 82 = .ok (.ifCond .eq 20, 3) := by decide +kernel
theorem d_MD_read_85 : decode b_MD_read 85 = .ok (.aload_n 0, 1) := by decide +kernel
theorem d_MD_read_86 : decode b_MD_read 86 = .ok (.iconst 0, 1) := by decide +kernel
theorem d_MD_read_87 : decode b_MD_read 87 = .ok (.putfield 69, 3) := by decide +kernel
theorem d_MD_read_90 : decode b_MD_read 90 = .ok (.aload_n 0, 1) := by decide +kernel
theorem d_MD_read_91 : decode b_MD_read 91 = .ok (.getfield 23, 3) := by decide +kernel
theorem d_MD_read_94 : decode b_MD_read 94 = .ok (.bipush 20, 2) := by decide +kernel
theorem d_MD_read_96 : decode b_MD_read 96 = .ok (.iload_n 3, 1) := by decide +kernel
theorem d_MD_read_97 : decode b_MD_read 97 = .ok (.imul, 1) := by decide +kernel
theorem d_MD_read_98 : decode b_MD_read 98 = .ok (.iload_n 1, 1) := by decide +kernel
theorem d_MD_read_99 : decode b_MD_read 99 = .ok (.iadd, 1) := by decide +kernel
theorem d_MD_read_100 : decode b_MD_read 100 = .ok (.iaload, 1) := by decide +kernel
theorem d_MD_read_101 : decode b_MD_read 101 = .ok (.ireturn, 1) := by decide +kernel
theorem d_MD_read_102 : decode b_MD_read 102 = .ok (.iinc 2 1, 3) := by decide +kernel
theorem d_MD_read_105 : decode b_MD_read 105 = .ok (.goto (-60), 3) := by decide +kernel
theorem d_MD_read_108 : decode b_MD_read 108 = .ok (.iconst 0, 1) := by decide +kernel
theorem d_MD_read_109 : decode b_MD_read 109 = .ok (.ireturn, 1) := by decide +kernel
end
section
/-! the memory of a side: n cells with labels 0 .. n - 1; label k lies at the address g k; K: its kind (code, length); I: its ints (a reference is the label that it points to, -1 for null) -/
def fw_W (g : Nat → Nat) (n : Nat) (M : Nat → va_E) : va_W := (List.range n).map (fun k => (g k, M k))
theorem fw_len {g : Nat → Nat} {n : Nat} {M : Nat → va_E} : (fw_W g n M).length = n := by
  unfold fw_W
  rw [List.length_map, List.length_range]
theorem fw_get {g : Nat → Nat} {n : Nat} {M : Nat → va_E} {k : Nat} (h : k < n) : (fw_W g n M)[k]? = some (g k, M k) := by
  unfold fw_W
  rw [List.getElem?_map, List.getElem?_range h]
  rfl
theorem fw_out {g : Nat → Nat} {n : Nat} {M : Nat → va_E} {k : Nat} (h : ¬ k < n) : (fw_W g n M)[k]? = none := by
  apply List.getElem?_eq_none
  rw [fw_len]
  omega
theorem fw_at {g : Nat → Nat} {n : Nat} {M : Nat → va_E} {k : Nat} {q : Nat × va_E} (h : (fw_W g n M)[k]? = some q) : k < n ∧ q = (g k, M k) := by
  by_cases hk : k < n
  · rw [fw_get hk] at h
    exact ⟨hk, (Option.some.inj h).symm⟩
  · rw [fw_out hk] at h
    cases h
theorem fw_set {g : Nat → Nat} {n : Nat} {M : Nat → va_E} {k : Nat} {e : va_E} (h : k < n) : (fw_W g n M).set k (g k, e) = fw_W g n (va_up M k e) := by
  apply List.ext_getElem?
  intro j
  by_cases hj : j = k
  · subst hj
    rw [List.getElem?_set_self (by rw [fw_len]; exact h), fw_get h, va_up_self]
  · rw [List.getElem?_set_ne (Ne.symm hj)]
    by_cases hn : j < n
    · rw [fw_get hn, fw_get hn, va_up_ne _ _ hj]
    · rw [fw_out hn, fw_out hn]
theorem fw_congr {g g' : Nat → Nat} {n : Nat} {M M' : Nat → va_E} (h : ∀ k, k < n → g k = g' k ∧ M k = M' k) : fw_W g n M = fw_W g' n M' := by
  apply List.ext_getElem?
  intro j
  by_cases hn : j < n
  · rw [fw_get hn, fw_get hn, (h j hn).1, (h j hn).2]
  · rw [fw_out hn, fw_out hn]
theorem fw_push {g : Nat → Nat} {n : Nat} {M : Nat → va_E} {q : Nat} {e : va_E} : fw_W g n M ++ [(q, e)] = fw_W (va_up g n q) (n + 1) (va_up M n e) := by
  apply List.ext_getElem?
  intro j
  by_cases hn : j < n
  · rw [List.getElem?_append_left (by rw [fw_len]; exact hn), fw_get hn, fw_get (by omega), va_up_ne _ _ (by omega), va_up_ne _ _ (by omega)]
  · rw [List.getElem?_append_right (by rw [fw_len]; omega), fw_len]
    by_cases hj : j = n
    · subst hj
      rw [fw_get (by omega), va_up_self, va_up_self, Nat.sub_self]
      rfl
    · rw [fw_out (by omega)]
      apply List.getElem?_eq_none
      show 1 ≤ j - n
      omega
def fw_up2 (I : Nat → Nat → Int32) (k j : Nat) (x : Int32) : Nat → Nat → Int32 := va_up I k (upd (I k) j x)
theorem fw_up2_eq (I : Nat → Nat → Int32) (k j : Nat) (x : Int32) : fw_up2 I k j x k j = x := by
  unfold fw_up2
  rw [va_up_self, pk_us]
theorem fw_up2_k (I : Nat → Nat → Int32) {k j k' : Nat} (x : Int32) (h : k' ≠ k) : fw_up2 I k j x k' = I k' := by
  unfold fw_up2
  rw [va_up_ne _ _ h]
theorem fw_up2_j (I : Nat → Nat → Int32) {k j j' : Nat} (x : Int32) (h : j' ≠ j) (k' : Nat) : fw_up2 I k j x k' j' = I k' j' := by
  unfold fw_up2
  by_cases hk : k' = k
  · subst hk
    rw [va_up_self, pk_un h]
  · rw [va_up_ne _ _ hk]
/-- the address that a reference stands for -/
def fw_ro (g : Nat → Nat) (x : Int32) : Option Nat := if x < 0 then none else some (g x.toNatClampNeg)
theorem fw_ro_some {g : Nat → Nat} {x : Int32} (h : ¬ x < 0) : fw_ro g x = some (g x.toNatClampNeg) := by
  unfold fw_ro
  rw [if_neg h]
/-- a field of an object of class c: its value -/
def fw_fd (g : Nat → Nat) (c : Nat) (i : Nat → Int32) (j : Nat) : Value := if fw_rf c j = true then va_rf (fw_ro g (i j)) else .int (i j)
def fw_fs (g : Nat → Nat) (c : Nat) (i : Nat → Int32) : List Value := (List.range (fw_nf c)).map (fw_fd g c i)
theorem fw_fs_get {g : Nat → Nat} {c : Nat} {i : Nat → Int32} {j : Nat} (h : j < fw_nf c) : (fw_fs g c i)[j]? = some (fw_fd g c i j) := by
  unfold fw_fs
  rw [List.getElem?_map, List.getElem?_range h]
  rfl
theorem fw_fs_len {g : Nat → Nat} {c : Nat} {i : Nat → Int32} : (fw_fs g c i).length = fw_nf c := by
  unfold fw_fs
  rw [List.length_map, List.length_range]
theorem fw_fs_set {g : Nat → Nat} {c : Nat} {i : Nat → Int32} {j : Nat} {x : Int32} {v : Value} (h : j < fw_nf c) (hv : v = if fw_rf c j = true then va_rf (fw_ro g x) else .int x) : (fw_fs g c i).set j v = fw_fs g c (upd i j x) := by
  apply List.ext_getElem?
  intro a
  by_cases ha : a = j
  · subst ha
    rw [List.getElem?_set_self (by rw [fw_fs_len]; exact h), fw_fs_get h, hv]
    unfold fw_fd
    rw [pk_us]
  · rw [List.getElem?_set_ne (Ne.symm ha)]
    by_cases hn : a < fw_nf c
    · rw [fw_fs_get hn, fw_fs_get hn]
      unfold fw_fd
      rw [pk_un ha]
    · rw [List.getElem?_eq_none (by rw [fw_fs_len]; omega), List.getElem?_eq_none (by rw [fw_fs_len]; omega)]
/-- what an array of kind c holds -/
def fw_ct (g : Nat → Nat) (c : Nat) (i : Nat → Int32) : ((Nat → Int32) ⊕ (Nat → Int64) ⊕ (Nat → UInt32) ⊕ (Nat → UInt64) ⊕ (Nat → Option Nat)) :=
  if c = 20 ∨ c = 21 then .inl i else if c = 22 then .inr (.inl (fun j => (i j).toInt64)) else .inr (.inr (.inr (.inr (fun j => fw_ro g (i j)))))
/-- a cell of kind (c, len): objects have c below 20 -/
def fw_sh (aC : Nat → ClassId) (g : Nat → Nat) (kd : Nat × Nat) (i : Nat → Int32) : va_E :=
  if kd.1 < 20 then .inr (kd.1, fw_fs g kd.1 i) else .inl (aC kd.1, kd.2, fw_ct g kd.1 i)
def fw_M (aC : Nat → ClassId) (g : Nat → Nat) (K : Nat → Nat × Nat) (I : Nat → Nat → Int32) : Nat → va_E := fun k => fw_sh aC g (K k) (I k)
theorem fw_M_up {aC : Nat → ClassId} {g : Nat → Nat} {K : Nat → Nat × Nat} {I : Nat → Nat → Int32} {k j : Nat} {x : Int32} : va_up (fw_M aC g K I) k (fw_sh aC g (K k) (upd (I k) j x)) = fw_M aC g K (fw_up2 I k j x) := by
  funext a
  by_cases ha : a = k
  · subst ha
    rw [va_up_self]
    unfold fw_M fw_up2
    rw [va_up_self]
  · rw [va_up_ne _ _ ha]
    unfold fw_M fw_up2
    rw [va_up_ne _ _ ha]
theorem fw_fd_i {g : Nat → Nat} {c j : Nat} {i : Nat → Int32} (h : fw_rf c j = false) : fw_fd g c i j = .int (i j) := by
  unfold fw_fd
  rw [if_neg (by rw [h]; decide)]
theorem fw_fd_r {g : Nat → Nat} {c j a : Nat} {i : Nat → Int32} (h : fw_rf c j = true) (hx : ¬ i j < 0) (ha : (i j).toNatClampNeg = a) : fw_fd g c i j = .ref (g a) := by
  unfold fw_fd
  rw [if_pos h, fw_ro_some hx, ha]
  rfl
theorem fw_pv_i {g : Nat → Nat} {c j : Nat} {x : Int32} (h : fw_rf c j = false) : (Value.int x) = if fw_rf c j = true then va_rf (fw_ro g x) else .int x := by
  rw [if_neg (by rw [h]; decide)]
theorem fw_pv_r {g : Nat → Nat} {c j a : Nat} {x : Int32} (h : fw_rf c j = true) (hx : ¬ x < 0) (ha : x.toNatClampNeg = a) : (Value.ref (g a)) = if fw_rf c j = true then va_rf (fw_ro g x) else .int x := by
  rw [if_pos h, fw_ro_some hx, ha]
  rfl
theorem fw_M_obj {aC : Nat → ClassId} {g : Nat → Nat} {K : Nat → Nat × Nat} {I : Nat → Nat → Int32} {k ci : Nat} (hk : (K k).1 = ci) (hc : ci < 20) : fw_M aC g K I k = .inr (ci, fw_fs g ci (I k)) := by
  unfold fw_M fw_sh
  rw [hk, if_pos hc]
theorem fw_M_arr {aC : Nat → ClassId} {g : Nat → Nat} {K : Nat → Nat × Nat} {I : Nat → Nat → Int32} {k c : Nat} (hk : (K k).1 = c) (hc : ¬ c < 20) : fw_M aC g K I k = .inl (aC c, (K k).2, fw_ct g c (I k)) := by
  unfold fw_M fw_sh
  rw [hk, if_neg hc]
theorem fw_obj {aC : Nat → ClassId} {g : Nat → Nat} {n : Nat} {K : Nat → Nat × Nat} {I : Nat → Nat → Int32} {k ci : Nat} (hn : ∀ k, (K k).1 < 99 → k < n) (hk : (K k).1 = ci) (hc : ci < 20) : (fw_W g n (fw_M aC g K I))[k]? = some (g k, .inr (ci, fw_fs g ci (I k))) := by
  rw [fw_get (hn k (by omega)), fw_M_obj hk hc]
theorem fw_objset {aC : Nat → ClassId} {g : Nat → Nat} {n : Nat} {K : Nat → Nat × Nat} {I : Nat → Nat → Int32} {k ci j : Nat} {x : Int32} {v : Value} (hn : ∀ k, (K k).1 < 99 → k < n) (hk : (K k).1 = ci) (hc : ci < 20) (hj : j < fw_nf ci) (hv : v = if fw_rf ci j = true then va_rf (fw_ro g x) else .int x) : (fw_W g n (fw_M aC g K I)).set k (g k, .inr (ci, (fw_fs g ci (I k)).set j v)) = fw_W g n (fw_M aC g K (fw_up2 I k j x)) := by
  rw [fw_set (hn k (by omega)), fw_fs_set hj hv, ← fw_M_up]
  unfold fw_sh
  rw [hk, if_pos hc]
def fw_ix (i : Int32) (n : Nat) : Bool := decide (0 ≤ i.toInt ∧ i.toInt < n)
theorem fw_ix_in {i : Int32} {n : Nat} (h : fw_ix i n = true) : vp_in i n := vp_in_iff.mpr (of_decide_eq_true h)
def fw_bl (x : Int32) : Bool := decide (x = 0 ∨ x = 1)
theorem fw_nar {x : Int32} (h : fw_bl x = true) : vp_nar .boolean x = x := by
  rcases of_decide_eq_true h with rfl | rfl <;> decide
theorem fw_nz {x : Int32} (h : fw_bl x = true) : narrow .boolean (.int x) = .int x ∧ fits .boolean (.int x) = true := by
  rcases of_decide_eq_true h with rfl | rfl <;> decide
theorem fw_ct20 {g : Nat → Nat} {i : Nat → Int32} : fw_ct g 20 i = .inl i := rfl
theorem fw_ct21 {g : Nat → Nat} {i : Nat → Int32} : fw_ct g 21 i = .inl i := rfl
theorem fw_arr_at {aC : Nat → ClassId} {g : Nat → Nat} {n : Nat} {K : Nat → Nat × Nat} {I : Nat → Nat → Int32} {k c : Nat} (hn : ∀ k, (K k).1 < 99 → k < n) (hk : (K k).1 = c) (hc : ¬ c < 20) (hd : c < 99) : (fw_W g n (fw_M aC g K I))[k]? = some (g k, .inl (aC c, (K k).2, fw_ct g c (I k))) := by
  rw [fw_get (hn k (by omega)), fw_M_arr hk hc]
theorem fw_arr_set {aC : Nat → ClassId} {g : Nat → Nat} {n : Nat} {K : Nat → Nat × Nat} {I : Nat → Nat → Int32} {k c j : Nat} {x : Int32} {v : ((Nat → Int32) ⊕ (Nat → Int64) ⊕ (Nat → UInt32) ⊕ (Nat → UInt64) ⊕ (Nat → Option Nat))} (hn : ∀ k, (K k).1 < 99 → k < n) (hk : (K k).1 = c) (hc : ¬ c < 20) (hd : c < 99) (hv : v = fw_ct g c (upd (I k) j x)) : (fw_W g n (fw_M aC g K I)).set k (g k, .inl (aC c, (K k).2, v)) = fw_W g n (fw_M aC g K (fw_up2 I k j x)) := by
  rw [fw_set (hn k (by omega)), hv, ← fw_M_up]
  unfold fw_sh
  rw [hk, if_neg hc]
theorem fw_arr20 {aC : Nat → ClassId} {g : Nat → Nat} {n : Nat} {K : Nat → Nat × Nat} {I : Nat → Nat → Int32} {k : Nat} (hn : ∀ k, (K k).1 < 99 → k < n) (hk : (K k).1 = 20) : (fw_W g n (fw_M aC g K I))[k]? = some (g k, .inl (aC 20, (K k).2, .inl (I k))) := fw_arr_at hn hk (by decide) (by decide)
theorem fw_arr21 {aC : Nat → ClassId} {g : Nat → Nat} {n : Nat} {K : Nat → Nat × Nat} {I : Nat → Nat → Int32} {k : Nat} (hn : ∀ k, (K k).1 < 99 → k < n) (hk : (K k).1 = 21) : (fw_W g n (fw_M aC g K I))[k]? = some (g k, .inl (aC 21, (K k).2, .inl (I k))) := fw_arr_at hn hk (by decide) (by decide)
theorem fw_arrset20 {aC : Nat → ClassId} {g : Nat → Nat} {n : Nat} {K : Nat → Nat × Nat} {I : Nat → Nat → Int32} {k j : Nat} {x : Int32} (hn : ∀ k, (K k).1 < 99 → k < n) (hk : (K k).1 = 20) : (fw_W g n (fw_M aC g K I)).set k (g k, .inl (aC 20, (K k).2, .inl (upd (I k) j x))) = fw_W g n (fw_M aC g K (fw_up2 I k j x)) := fw_arr_set hn hk (by decide) (by decide) rfl
theorem fw_arrset21 {aC : Nat → ClassId} {g : Nat → Nat} {n : Nat} {K : Nat → Nat × Nat} {I : Nat → Nat → Int32} {k j : Nat} {x y : Int32} (hn : ∀ k, (K k).1 < 99 → k < n) (hk : (K k).1 = 21) (hy : y = x) : (fw_W g n (fw_M aC g K I)).set k (g k, .inl (aC 21, (K k).2, .inl (upd (I k) j y))) = fw_W g n (fw_M aC g K (fw_up2 I k j x)) := by
  subst hy
  exact fw_arr_set hn hk (by decide) (by decide) rfl
/-- the class of an array's elements -/
def fw_el (c : Nat) : Nat := if c = 23 then fw_cStore else if c = 24 then fw_cMessage else fw_cRecoverer
theorem fw_ro_up {g : Nat → Nat} {i : Nat → Int32} {j a : Nat} {x : Int32} (hx : ¬ x < 0) (ha : x.toNatClampNeg = a) : va_up (fun j => fw_ro g (i j)) j (some (g a)) = fun q => fw_ro g (upd i j x q) := by
  funext q
  by_cases hq : q = j
  · subst hq
    rw [va_up_self, pk_us, fw_ro_some hx, ha]
  · rw [va_up_ne _ _ hq, pk_un hq]
theorem fw_arr23 {aC : Nat → ClassId} {g : Nat → Nat} {n : Nat} {K : Nat → Nat × Nat} {I : Nat → Nat → Int32} {k : Nat} (hn : ∀ k, (K k).1 < 99 → k < n) (hk : (K k).1 = 23) : (fw_W g n (fw_M aC g K I))[k]? = some (g k, .inl (aC 23, (K k).2, .inr (.inr (.inr (.inr (fun j => fw_ro g (I k j))))))) := fw_arr_at hn hk (by decide) (by decide)
theorem fw_arrset23 {aC : Nat → ClassId} {g : Nat → Nat} {n : Nat} {K : Nat → Nat × Nat} {I : Nat → Nat → Int32} {k j a : Nat} {x : Int32} (hn : ∀ k, (K k).1 < 99 → k < n) (hk : (K k).1 = 23) (hx : ¬ x < 0) (ha : x.toNatClampNeg = a) : (fw_W g n (fw_M aC g K I)).set k (g k, .inl (aC 23, (K k).2, .inr (.inr (.inr (.inr (va_up (fun j => fw_ro g (I k j)) j (some (g a)))))))) = fw_W g n (fw_M aC g K (fw_up2 I k j x)) := fw_arr_set hn hk (by decide) (by decide) (by rw [fw_ro_up hx ha]; rfl)
theorem fw_arr24 {aC : Nat → ClassId} {g : Nat → Nat} {n : Nat} {K : Nat → Nat × Nat} {I : Nat → Nat → Int32} {k : Nat} (hn : ∀ k, (K k).1 < 99 → k < n) (hk : (K k).1 = 24) : (fw_W g n (fw_M aC g K I))[k]? = some (g k, .inl (aC 24, (K k).2, .inr (.inr (.inr (.inr (fun j => fw_ro g (I k j))))))) := fw_arr_at hn hk (by decide) (by decide)
theorem fw_arrset24 {aC : Nat → ClassId} {g : Nat → Nat} {n : Nat} {K : Nat → Nat × Nat} {I : Nat → Nat → Int32} {k j a : Nat} {x : Int32} (hn : ∀ k, (K k).1 < 99 → k < n) (hk : (K k).1 = 24) (hx : ¬ x < 0) (ha : x.toNatClampNeg = a) : (fw_W g n (fw_M aC g K I)).set k (g k, .inl (aC 24, (K k).2, .inr (.inr (.inr (.inr (va_up (fun j => fw_ro g (I k j)) j (some (g a)))))))) = fw_W g n (fw_M aC g K (fw_up2 I k j x)) := fw_arr_set hn hk (by decide) (by decide) (by rw [fw_ro_up hx ha]; rfl)
theorem fw_arr25 {aC : Nat → ClassId} {g : Nat → Nat} {n : Nat} {K : Nat → Nat × Nat} {I : Nat → Nat → Int32} {k : Nat} (hn : ∀ k, (K k).1 < 99 → k < n) (hk : (K k).1 = 25) : (fw_W g n (fw_M aC g K I))[k]? = some (g k, .inl (aC 25, (K k).2, .inr (.inr (.inr (.inr (fun j => fw_ro g (I k j))))))) := fw_arr_at hn hk (by decide) (by decide)
theorem fw_arrset25 {aC : Nat → ClassId} {g : Nat → Nat} {n : Nat} {K : Nat → Nat × Nat} {I : Nat → Nat → Int32} {k j a : Nat} {x : Int32} (hn : ∀ k, (K k).1 < 99 → k < n) (hk : (K k).1 = 25) (hx : ¬ x < 0) (ha : x.toNatClampNeg = a) : (fw_W g n (fw_M aC g K I)).set k (g k, .inl (aC 25, (K k).2, .inr (.inr (.inr (.inr (va_up (fun j => fw_ro g (I k j)) j (some (g a)))))))) = fw_W g n (fw_M aC g K (fw_up2 I k j x)) := fw_arr_set hn hk (by decide) (by decide) (by rw [fw_ro_up hx ha]; rfl)
/-- what a walk knows from its beginning to its end -/
abbrev fw_C (p : Program) (m : MethodId) (c : Code) (cc : ByteArray) (nL : Nat) (s : State) (args : Array Value) (Ts : List Cond) (own : String) (D : va_G) (aC : Nat → ClassId) (n : Nat) (K : Nat → Nat × Nat) : Prop :=
  CallFix p m c cc nL s args Ts own ∧ va_K D fw_cl (fw_tys aC) s ∧ ∀ k, (K k).1 < 99 → k < n
theorem fw_toP {D : va_G} {cl : List vw_C} {ws ws' : va_W} {H : Heap} (h : ws = ws') (x : va_P D cl ws H) : va_P D cl ws' H := h ▸ x
theorem fw_toD {A : Nat → Prop} {ws ws' : va_W} (h : ws = ws') (x : va_D A ws) : va_D A ws' := h ▸ x
/-- the memory I lies in the heap -/
def fw_Wd (D : va_G) (aC : Nat → ClassId) (A : Nat → Prop) (g : Nat → Nat) (n : Nat) (K : Nat → Nat × Nat) (I : Nat → Nat → Int32) (H : Heap) : Prop := va_P D fw_cl (fw_W g n (fw_M aC g K I)) H ∧ va_D A (fw_W g n (fw_M aC g K I))
/-- the walk at pc, with these locals and this stack, over heaps of which Wd holds -/
def fw_H (p : Program) (l : Launch) (e : Env) (R : Room) (s : State) (m : MethodId) (args : Array Value) (below : List Frame) (meth : Method) (c : Code) (cells slots : Nat) (Q : State → Prop) (nL : Nat) (A : Nat → Prop) (Wd : Heap → Prop) (pc : Nat) (lv : List (Nat × Value)) (st : List Value) : Prop :=
  ∀ (ls : Array Slot) (H : Heap) (locs : List Loc), lv_has ls nL lv → Wd H → va_S A s.heap H locs → W p l e R s m args below meth c H locs cells slots Q (F0 m pc ls st)
abbrev fw_G (p : Program) (l : Launch) (e : Env) (R : Room) (s : State) (m : MethodId) (args : Array Value) (below : List Frame) (meth : Method) (c : Code) (cells slots : Nat) (Q : State → Prop) (nL : Nat) (D : va_G) (aC : Nat → ClassId) (A : Nat → Prop) (g : Nat → Nat) (n : Nat) (K : Nat → Nat × Nat) (I : Nat → Nat → Int32) (pc : Nat) (lv : List (Nat × Value)) (st : List Value) : Prop :=
  fw_H p l e R s m args below meth c cells slots Q nL A (fw_Wd D aC A g n K I) pc lv st
/-! the combinators of the printed functions: each with what it gives -/
def fw_let {α ρ : Type} (a : α) (f : α → Option ρ) : Option ρ := f a
theorem fw_let_some {α ρ : Type} {a : α} {f : α → Option ρ} {r : ρ} (h : fw_let a f = some r) : ∃ b, b = a ∧ f b = some r := ⟨a, rfl, h⟩
def fw_gd {ρ : Type} (b : Bool) (x : Option ρ) : Option ρ := if b = true then x else none
theorem fw_gd_some {ρ : Type} {b : Bool} {x : Option ρ} {r : ρ} (h : fw_gd b x = some r) : b = true ∧ x = some r := by
  unfold fw_gd at h
  by_cases hb : b = true
  · rw [if_pos hb] at h
    exact ⟨hb, h⟩
  · rw [if_neg hb] at h
    cases h
def fw_ld {ρ : Type} (K : Nat → Nat × Nat) (x : Int32) (c : Nat) (f : Nat → Option ρ) : Option ρ := if ¬ x < 0 ∧ (K x.toNatClampNeg).1 = c then f x.toNatClampNeg else none
theorem fw_ld_some {ρ : Type} {K : Nat → Nat × Nat} {x : Int32} {c : Nat} {f : Nat → Option ρ} {r : ρ} (h : fw_ld K x c f = some r) : ∃ a, ¬ x < 0 ∧ x.toNatClampNeg = a ∧ (K a).1 = c ∧ f a = some r := by
  unfold fw_ld at h
  by_cases hb : ¬ x < 0 ∧ (K x.toNatClampNeg).1 = c
  · rw [if_pos hb] at h
    exact ⟨_, hb.1, rfl, hb.2, h⟩
  · rw [if_neg hb] at h
    cases h
def fw_bd {α β ρ : Type} (q : Option (α × β)) (f : α → β → Option ρ) : Option ρ := match q with
  | none => none
  | some r => f r.1 r.2
theorem fw_bd_some {α β ρ : Type} {q : Option (α × β)} {f : α → β → Option ρ} {r : ρ} (h : fw_bd q f = some r) : ∃ a b, q = some (a, b) ∧ f a b = some r := by
  cases q with
  | none => cases h
  | some q => exact ⟨q.1, q.2, rfl, h⟩
def fw_bv {β ρ : Type} (q : Option β) (f : β → Option ρ) : Option ρ := match q with
  | none => none
  | some r => f r
theorem fw_bv_some {β ρ : Type} {q : Option β} {f : β → Option ρ} {r : ρ} (h : fw_bv q f = some r) : ∃ b, q = some b ∧ f b = some r := by
  cases q with
  | none => cases h
  | some q => exact ⟨q, rfl, h⟩
end
section
section FWR
variable {p : Program} {l : Launch} {e : Env} {R : Room} {s : State} {m : MethodId} {args : Array Value} {below : List Frame} {meth : Method} {c : Code} {cells slots : Nat} {Q : State → Prop}
variable {cc : ByteArray} {nL : Nat} {Ts : List Cond} {own : String} {D : va_G} {aC : Nat → ClassId} {A : Nat → Prop} {g : Nat → Nat} {n : Nat} {K : Nat → Nat × Nat} {I : Nat → Nat → Int32} {pc : Nat} {lv lv' : List (Nat × Value)} {st : List Value} {Wd : Heap → Prop}

theorem fx_iconst (C : CallFix p m c cc nL s args Ts own) {pc' : Nat} {a : Int} {v : Int32} (hdg : decode cc pc = .ok (.iconst a, 1)) (hv : Int32.ofInt a = v) (hp : pc + 1 = pc')
    (kk : fw_H p l e R s m args below meth c cells slots Q nL A Wd (pc') lv (.int v :: st)) : fw_H p l e R s m args below meth c cells slots Q nL A Wd (pc) lv (st) := by
  subst hp
  exact fun ls H locs hl hW hS => lv_iconst C.1 C.2.1 hdg hv (kk ls H locs hl hW hS)
theorem fx_bipush (C : CallFix p m c cc nL s args Ts own) {pc' : Nat} {a : Int} {v : Int32} (hdg : decode cc pc = .ok (.bipush a, 2)) (hv : (Int8.ofInt a).toInt32 = v) (hp : pc + 2 = pc')
    (kk : fw_H p l e R s m args below meth c cells slots Q nL A Wd (pc') lv (.int v :: st)) : fw_H p l e R s m args below meth c cells slots Q nL A Wd (pc) lv (st) := by
  subst hp
  exact fun ls H locs hl hW hS => lv_bipush C.1 C.2.1 hdg hv (kk ls H locs hl hW hS)
theorem fx_sipush (C : CallFix p m c cc nL s args Ts own) {pc' : Nat} {a : Int} {v : Int32} (hdg : decode cc pc = .ok (.sipush a, 3)) (hv : (Int16.ofInt a).toInt32 = v) (hp : pc + 3 = pc')
    (kk : fw_H p l e R s m args below meth c cells slots Q nL A Wd (pc') lv (.int v :: st)) : fw_H p l e R s m args below meth c cells slots Q nL A Wd (pc) lv (st) := by
  subst hp
  exact fun ls H locs hl hW hS => lv_sipush C.1 C.2.1 hdg hv (kk ls H locs hl hW hS)
theorem fx_iload_n (C : CallFix p m c cc nL s args Ts own) {pc' : Nat} {k : Fin 4} {i : Nat} {x : Int32} (hdg : decode cc pc = .ok (.iload_n k, 1)) (hi : (k : Nat) = i) (j : Nat) (hj : lv[j]? = some (i, .int x)) (hp : pc + 1 = pc')
    (kk : fw_H p l e R s m args below meth c cells slots Q nL A Wd (pc') lv (.int x :: st)) : fw_H p l e R s m args below meth c cells slots Q nL A Wd (pc) lv (st) := by
  subst hp
  exact fun ls H locs hl hW hS => lv_iload_n C.1 C.2.1 hdg hi (lv_at hl j hj) (kk ls H locs hl hW hS)
theorem fx_iload (C : CallFix p m c cc nL s args Ts own) {pc' : Nat} {i : Nat} {x : Int32} (hdg : decode cc pc = .ok (.iload i, 2)) (j : Nat) (hj : lv[j]? = some (i, .int x)) (hp : pc + 2 = pc')
    (kk : fw_H p l e R s m args below meth c cells slots Q nL A Wd (pc') lv (.int x :: st)) : fw_H p l e R s m args below meth c cells slots Q nL A Wd (pc) lv (st) := by
  subst hp
  exact fun ls H locs hl hW hS => lv_iload C.1 C.2.1 hdg (lv_at hl j hj) (kk ls H locs hl hW hS)
theorem fx_istore_n (C : CallFix p m c cc nL s args Ts own) {pc' : Nat} {k : Fin 4} {i : Nat} {x : Int32} (hdg : decode cc pc = .ok (.istore_n k, 1)) (hi : (k : Nat) = i) (hn : i < nL) (hv : (i, Value.int x) :: lv.filter (fun q => !(q.1 == i) && !(q.1 + 1 == i && q.2.category == 2)) = lv') (hp : pc + 1 = pc')
    (kk : fw_H p l e R s m args below meth c cells slots Q nL A Wd (pc') lv' (st)) : fw_H p l e R s m args below meth c cells slots Q nL A Wd (pc) lv (.int x :: st) := by
  subst hp
  exact fun ls H locs hl hW hS => lv_istore_n C.1 C.2.1 hdg hi hl hn hv (fun ls' hl' => kk ls' H locs hl' hW hS)
theorem fx_istore (C : CallFix p m c cc nL s args Ts own) {pc' : Nat} {i : Nat} {x : Int32} (hdg : decode cc pc = .ok (.istore i, 2)) (hn : i < nL) (hv : (i, Value.int x) :: lv.filter (fun q => !(q.1 == i) && !(q.1 + 1 == i && q.2.category == 2)) = lv') (hp : pc + 2 = pc')
    (kk : fw_H p l e R s m args below meth c cells slots Q nL A Wd (pc') lv' (st)) : fw_H p l e R s m args below meth c cells slots Q nL A Wd (pc) lv (.int x :: st) := by
  subst hp
  exact fun ls H locs hl hW hS => lv_istore C.1 C.2.1 hdg hl hn hv (fun ls' hl' => kk ls' H locs hl' hW hS)
theorem fx_aload_n (C : CallFix p m c cc nL s args Ts own) {pc' : Nat} {k : Fin 4} {i : Nat} {x : Nat} (hdg : decode cc pc = .ok (.aload_n k, 1)) (hi : (k : Nat) = i) (j : Nat) (hj : lv[j]? = some (i, .ref x)) (hp : pc + 1 = pc')
    (kk : fw_H p l e R s m args below meth c cells slots Q nL A Wd (pc') lv (.ref x :: st)) : fw_H p l e R s m args below meth c cells slots Q nL A Wd (pc) lv (st) := by
  subst hp
  exact fun ls H locs hl hW hS => lv_aload_n C.1 C.2.1 hdg hi (lv_at hl j hj) (kk ls H locs hl hW hS)
theorem fx_aload (C : CallFix p m c cc nL s args Ts own) {pc' : Nat} {i : Nat} {x : Nat} (hdg : decode cc pc = .ok (.aload i, 2)) (j : Nat) (hj : lv[j]? = some (i, .ref x)) (hp : pc + 2 = pc')
    (kk : fw_H p l e R s m args below meth c cells slots Q nL A Wd (pc') lv (.ref x :: st)) : fw_H p l e R s m args below meth c cells slots Q nL A Wd (pc) lv (st) := by
  subst hp
  exact fun ls H locs hl hW hS => lv_aload C.1 C.2.1 hdg (lv_at hl j hj) (kk ls H locs hl hW hS)
theorem fx_astore_n (C : CallFix p m c cc nL s args Ts own) {pc' : Nat} {k : Fin 4} {i : Nat} {x : Nat} (hdg : decode cc pc = .ok (.astore_n k, 1)) (hi : (k : Nat) = i) (hn : i < nL) (hv : (i, Value.ref x) :: lv.filter (fun q => !(q.1 == i) && !(q.1 + 1 == i && q.2.category == 2)) = lv') (hp : pc + 1 = pc')
    (kk : fw_H p l e R s m args below meth c cells slots Q nL A Wd (pc') lv' (st)) : fw_H p l e R s m args below meth c cells slots Q nL A Wd (pc) lv (.ref x :: st) := by
  subst hp
  exact fun ls H locs hl hW hS => lv_astore_n C.1 C.2.1 hdg hi hl hn hv (fun ls' hl' => kk ls' H locs hl' hW hS)
theorem fx_astore (C : CallFix p m c cc nL s args Ts own) {pc' : Nat} {i : Nat} {x : Nat} (hdg : decode cc pc = .ok (.astore i, 2)) (hn : i < nL) (hv : (i, Value.ref x) :: lv.filter (fun q => !(q.1 == i) && !(q.1 + 1 == i && q.2.category == 2)) = lv') (hp : pc + 2 = pc')
    (kk : fw_H p l e R s m args below meth c cells slots Q nL A Wd (pc') lv' (st)) : fw_H p l e R s m args below meth c cells slots Q nL A Wd (pc) lv (.ref x :: st) := by
  subst hp
  exact fun ls H locs hl hW hS => lv_astore C.1 C.2.1 hdg hl hn hv (fun ls' hl' => kk ls' H locs hl' hW hS)
theorem fx_iinc (C : CallFix p m c cc nL s args Ts own) {pc' : Nat} {i : Nat} {a : Int} {x v : Int32} (hdg : decode cc pc = .ok (.iinc i a, 3)) (j : Nat) (hj : lv[j]? = some (i, .int x)) (hx : x + Int32.ofInt a = v) (hn : i < nL) (hv : (i, Value.int v) :: lv.filter (fun q => !(q.1 == i) && !(q.1 + 1 == i && q.2.category == 2)) = lv') (hp : pc + 3 = pc')
    (kk : fw_H p l e R s m args below meth c cells slots Q nL A Wd (pc') lv' (st)) : fw_H p l e R s m args below meth c cells slots Q nL A Wd (pc) lv (st) := by
  subst hp
  exact fun ls H locs hl hW hS => lv_iinc C.1 C.2.1 hdg hl hj hx hn hv (fun ls' hl' => kk ls' H locs hl' hW hS)
theorem fx_iadd (C : CallFix p m c cc nL s args Ts own) {pc' : Nat} {x y : Int32} (hdg : decode cc pc = .ok (.iadd, 1)) (hp : pc + 1 = pc')
    (kk : fw_H p l e R s m args below meth c cells slots Q nL A Wd (pc') lv (.int (x + y) :: st)) : fw_H p l e R s m args below meth c cells slots Q nL A Wd (pc) lv (.int y :: .int x :: st) := by
  subst hp
  exact fun ls H locs hl hW hS => lv_iadd C.1 C.2.1 hdg (kk ls H locs hl hW hS)
theorem fx_isub (C : CallFix p m c cc nL s args Ts own) {pc' : Nat} {x y : Int32} (hdg : decode cc pc = .ok (.isub, 1)) (hp : pc + 1 = pc')
    (kk : fw_H p l e R s m args below meth c cells slots Q nL A Wd (pc') lv (.int (x - y) :: st)) : fw_H p l e R s m args below meth c cells slots Q nL A Wd (pc) lv (.int y :: .int x :: st) := by
  subst hp
  exact fun ls H locs hl hW hS => lv_isub C.1 C.2.1 hdg (kk ls H locs hl hW hS)
theorem fx_imul (C : CallFix p m c cc nL s args Ts own) {pc' : Nat} {x y : Int32} (hdg : decode cc pc = .ok (.imul, 1)) (hp : pc + 1 = pc')
    (kk : fw_H p l e R s m args below meth c cells slots Q nL A Wd (pc') lv (.int (x * y) :: st)) : fw_H p l e R s m args below meth c cells slots Q nL A Wd (pc) lv (.int y :: .int x :: st) := by
  subst hp
  exact fun ls H locs hl hW hS => lv_imul C.1 C.2.1 hdg (kk ls H locs hl hW hS)
theorem fx_iand (C : CallFix p m c cc nL s args Ts own) {pc' : Nat} {x y : Int32} (hdg : decode cc pc = .ok (.iand, 1)) (hp : pc + 1 = pc')
    (kk : fw_H p l e R s m args below meth c cells slots Q nL A Wd (pc') lv (.int (x &&& y) :: st)) : fw_H p l e R s m args below meth c cells slots Q nL A Wd (pc) lv (.int y :: .int x :: st) := by
  subst hp
  exact fun ls H locs hl hW hS => lv_iand C.1 C.2.1 hdg (kk ls H locs hl hW hS)
theorem fx_ior (C : CallFix p m c cc nL s args Ts own) {pc' : Nat} {x y : Int32} (hdg : decode cc pc = .ok (.ior, 1)) (hp : pc + 1 = pc')
    (kk : fw_H p l e R s m args below meth c cells slots Q nL A Wd (pc') lv (.int (x ||| y) :: st)) : fw_H p l e R s m args below meth c cells slots Q nL A Wd (pc) lv (.int y :: .int x :: st) := by
  subst hp
  exact fun ls H locs hl hW hS => lv_ior C.1 C.2.1 hdg (kk ls H locs hl hW hS)
theorem fx_ishl (C : CallFix p m c cc nL s args Ts own) {pc' : Nat} {x y : Int32} (hdg : decode cc pc = .ok (.ishl, 1)) (hp : pc + 1 = pc')
    (kk : fw_H p l e R s m args below meth c cells slots Q nL A Wd (pc') lv (.int (x <<< (y &&& 31)) :: st)) : fw_H p l e R s m args below meth c cells slots Q nL A Wd (pc) lv (.int y :: .int x :: st) := by
  subst hp
  exact fun ls H locs hl hW hS => lv_ishl C.1 C.2.1 hdg (kk ls H locs hl hW hS)
theorem fx_irem (C : CallFix p m c cc nL s args Ts own) {pc' : Nat} {x y : Int32} (hdg : decode cc pc = .ok (.irem, 1)) (hne : ¬ y = 0) (hp : pc + 1 = pc')
    (kk : fw_H p l e R s m args below meth c cells slots Q nL A Wd (pc') lv (.int (x - x / y * y) :: st)) : fw_H p l e R s m args below meth c cells slots Q nL A Wd (pc) lv (.int y :: .int x :: st) := by
  subst hp
  exact fun ls H locs hl hW hS => lv_irem C.1 C.2.1 hdg hne (kk ls H locs hl hW hS)
theorem fx_iushr (C : CallFix p m c cc nL s args Ts own) {pc' : Nat} {x y : Int32} (hdg : decode cc pc = .ok (.iushr, 1)) (hp : pc + 1 = pc')
    (kk : fw_H p l e R s m args below meth c cells slots Q nL A Wd (pc') lv (.int (x.toUInt32 >>> (y.toUInt32 &&& Int32.toUInt32 31)).toInt32 :: st)) : fw_H p l e R s m args below meth c cells slots Q nL A Wd (pc) lv (.int y :: .int x :: st) := by
  subst hp
  exact fun ls H locs hl hW hS => lv_iushr C.1 C.2.1 hdg rfl (kk ls H locs hl hW hS)
theorem fx_ldc_w (C : CallFix p m c cc nL s args Ts own) {pc' : Nat} {index : Nat} {v : Int32} (hc : (Jvm.Cond.constant own index v).before args s = true) (hdg : decode cc pc = .ok (.ldc_w index, 3)) (hp : pc + 3 = pc')
    (kk : fw_H p l e R s m args below meth c cells slots Q nL A Wd (pc') lv (.int v :: st)) : fw_H p l e R s m args below meth c cells slots Q nL A Wd (pc) lv (st) := by
  subst hp
  exact fun ls H locs hl hW hS => lv_ldcw C.1 C.2.1 C.2.2.2.1 hc hdg (kk ls H locs hl hW hS)
theorem fx_mmax (C : CallFix p m c cc nL s args Ts own) {pc' : Nat} {x y : Int32} {index : Nat} (hlink : (Cond.methodLink own index Lib.Math.max.name).before args s = true) (hstat : (Cond.static Lib.Math.max.name).before args s = true) (hini : (Cond.initialized "java/lang/Math").before args s = true) (hcode : (Cond.code Lib.Math.max.name Lib.Math.max.code 2 (some .int)).before args s = true) (hfr : 1 ≤ R.frames) (hlo : (st.map fun v => v.category).sum + 13 ≤ R.locals) (hcs : cells ≤ R.cells ∧ slots ≤ R.slots) (hdg : decode cc pc = .ok (.invokestatic index, 3)) (hp : pc + 3 = pc')
    (kk : fw_H p l e R s m args below meth c cells slots Q nL A Wd (pc') lv (.int (if x < y then y else x) :: st)) : fw_H p l e R s m args below meth c cells slots Q nL A Wd (pc) lv (.int y :: .int x :: st) := by
  subst hp
  exact fun ls H locs hl hW hS => va_mmax C.1 C.2.1 (C.2.2.1.trans hl.1.symm) C.2.2.2.1 hlink hstat hini hcode hfr hlo hcs.1 hcs.2 hdg (kk ls H locs hl hW hS)
theorem fx_mmin (C : CallFix p m c cc nL s args Ts own) {pc' : Nat} {x y : Int32} {index : Nat} (hlink : (Cond.methodLink own index Lib.Math.min.name).before args s = true) (hstat : (Cond.static Lib.Math.min.name).before args s = true) (hini : (Cond.initialized "java/lang/Math").before args s = true) (hcode : (Cond.code Lib.Math.min.name Lib.Math.min.code 2 (some .int)).before args s = true) (hfr : 1 ≤ R.frames) (hlo : (st.map fun v => v.category).sum + 13 ≤ R.locals) (hcs : cells ≤ R.cells ∧ slots ≤ R.slots) (hdg : decode cc pc = .ok (.invokestatic index, 3)) (hp : pc + 3 = pc')
    (kk : fw_H p l e R s m args below meth c cells slots Q nL A Wd (pc') lv (.int (if y < x then y else x) :: st)) : fw_H p l e R s m args below meth c cells slots Q nL A Wd (pc) lv (.int y :: .int x :: st) := by
  subst hp
  exact fun ls H locs hl hW hS => va_mmin C.1 C.2.1 (C.2.2.1.trans hl.1.symm) C.2.2.2.1 hlink hstat hini hcode hfr hlo hcs.1 hcs.2 hdg (kk ls H locs hl hW hS)
theorem fx_i2l (C : CallFix p m c cc nL s args Ts own) {pc' : Nat} {x : Int32} (hdg : decode cc pc = .ok (.i2l, 1)) (hp : pc + 1 = pc')
    (kk : fw_H p l e R s m args below meth c cells slots Q nL A Wd (pc') lv (.long x.toInt64 :: st)) : fw_H p l e R s m args below meth c cells slots Q nL A Wd (pc) lv (.int x :: st) := by
  subst hp
  exact fun ls H locs hl hW hS => lv_i2l C.1 C.2.1 hdg rfl (kk ls H locs hl hW hS)
theorem fx_dup (C : CallFix p m c cc nL s args Ts own) {pc' : Nat} {v : Value} (hdg : decode cc pc = .ok (.dup, 1)) (hv : v.category = 1) (hp : pc + 1 = pc')
    (kk : fw_H p l e R s m args below meth c cells slots Q nL A Wd (pc') lv (v :: v :: st)) : fw_H p l e R s m args below meth c cells slots Q nL A Wd (pc) lv (v :: st) := by
  subst hp
  exact fun ls H locs hl hW hS => lv_dup C.1 C.2.1 hdg hv (kk ls H locs hl hW hS)
theorem fx_pop (C : CallFix p m c cc nL s args Ts own) {pc' : Nat} {v : Value} (hdg : decode cc pc = .ok (.pop, 1)) (hv : v.category = 1) (hp : pc + 1 = pc')
    (kk : fw_H p l e R s m args below meth c cells slots Q nL A Wd (pc') lv (st)) : fw_H p l e R s m args below meth c cells slots Q nL A Wd (pc) lv (v :: st) := by
  subst hp
  exact fun ls H locs hl hW hS => lv_pop C.1 C.2.1 hdg hv (kk ls H locs hl hW hS)
theorem fx_dup2 (C : CallFix p m c cc nL s args Ts own) {pc' : Nat} {v w : Value} (hdg : decode cc pc = .ok (.dup2, 1)) (hv : v.category = 1) (hw : w.category = 1) (hp : pc + 1 = pc')
    (kk : fw_H p l e R s m args below meth c cells slots Q nL A Wd (pc') lv (v :: w :: v :: w :: st)) : fw_H p l e R s m args below meth c cells slots Q nL A Wd (pc) lv (v :: w :: st) := by
  subst hp
  exact fun ls H locs hl hW hS => lv_dup2_11 C.1 C.2.1 hdg hv hw (kk ls H locs hl hW hS)
theorem fx_goto (C : CallFix p m c cc nL s args Ts own) {off : Int} {tgt : Nat} (hdg : decode cc pc = .ok (.goto off, 3)) (ht : (pc : Int) + off = (tgt : Int))
    (kk : fw_H p l e R s m args below meth c cells slots Q nL A Wd (tgt) lv (st)) : fw_H p l e R s m args below meth c cells slots Q nL A Wd (pc) lv (st) :=
  fun ls H locs hl hW hS => lv_goto C.1 C.2.1 hdg ht (kk ls H locs hl hW hS)
theorem fx_if_eq (C : CallFix p m c cc nL s args Ts own) {x : Int32} {off : Int} {tgt pc' : Nat} (hdg : decode cc pc = .ok (.ifCond .eq off, 3)) (ht : (pc : Int) + off = (tgt : Int)) (hp : pc + 3 = pc')
    (kt : x = 0 → fw_H p l e R s m args below meth c cells slots Q nL A Wd (tgt) lv (st)) (kf : ¬ x = 0 → fw_H p l e R s m args below meth c cells slots Q nL A Wd (pc') lv (st)) : fw_H p l e R s m args below meth c cells slots Q nL A Wd (pc) lv (.int x :: st) := by
  subst hp
  exact fun ls H locs hl hW hS => lv_if_eq C.1 C.2.1 hdg ht (fun q => kt q ls H locs hl hW hS) (fun q => kf q ls H locs hl hW hS)
theorem fx_icmp_eq (C : CallFix p m c cc nL s args Ts own) {x y : Int32} {off : Int} {tgt pc' : Nat} (hdg : decode cc pc = .ok (.if_icmp .eq off, 3)) (ht : (pc : Int) + off = (tgt : Int)) (hp : pc + 3 = pc')
    (kt : x = y → fw_H p l e R s m args below meth c cells slots Q nL A Wd (tgt) lv (st)) (kf : ¬ x = y → fw_H p l e R s m args below meth c cells slots Q nL A Wd (pc') lv (st)) : fw_H p l e R s m args below meth c cells slots Q nL A Wd (pc) lv (.int y :: .int x :: st) := by
  subst hp
  exact fun ls H locs hl hW hS => lv_icmp_eq C.1 C.2.1 hdg ht (fun q => kt q ls H locs hl hW hS) (fun q => kf q ls H locs hl hW hS)
theorem fx_if_ne (C : CallFix p m c cc nL s args Ts own) {x : Int32} {off : Int} {tgt pc' : Nat} (hdg : decode cc pc = .ok (.ifCond .ne off, 3)) (ht : (pc : Int) + off = (tgt : Int)) (hp : pc + 3 = pc')
    (kt : ¬ x = 0 → fw_H p l e R s m args below meth c cells slots Q nL A Wd (tgt) lv (st)) (kf : x = 0 → fw_H p l e R s m args below meth c cells slots Q nL A Wd (pc') lv (st)) : fw_H p l e R s m args below meth c cells slots Q nL A Wd (pc) lv (.int x :: st) := by
  subst hp
  exact fun ls H locs hl hW hS => lv_if_ne C.1 C.2.1 hdg ht (fun q => kt q ls H locs hl hW hS) (fun q => kf q ls H locs hl hW hS)
theorem fx_icmp_ne (C : CallFix p m c cc nL s args Ts own) {x y : Int32} {off : Int} {tgt pc' : Nat} (hdg : decode cc pc = .ok (.if_icmp .ne off, 3)) (ht : (pc : Int) + off = (tgt : Int)) (hp : pc + 3 = pc')
    (kt : ¬ x = y → fw_H p l e R s m args below meth c cells slots Q nL A Wd (tgt) lv (st)) (kf : x = y → fw_H p l e R s m args below meth c cells slots Q nL A Wd (pc') lv (st)) : fw_H p l e R s m args below meth c cells slots Q nL A Wd (pc) lv (.int y :: .int x :: st) := by
  subst hp
  exact fun ls H locs hl hW hS => lv_icmp_ne C.1 C.2.1 hdg ht (fun q => kt q ls H locs hl hW hS) (fun q => kf q ls H locs hl hW hS)
theorem fx_if_lt (C : CallFix p m c cc nL s args Ts own) {x : Int32} {off : Int} {tgt pc' : Nat} (hdg : decode cc pc = .ok (.ifCond .lt off, 3)) (ht : (pc : Int) + off = (tgt : Int)) (hp : pc + 3 = pc')
    (kt : x < 0 → fw_H p l e R s m args below meth c cells slots Q nL A Wd (tgt) lv (st)) (kf : ¬ x < 0 → fw_H p l e R s m args below meth c cells slots Q nL A Wd (pc') lv (st)) : fw_H p l e R s m args below meth c cells slots Q nL A Wd (pc) lv (.int x :: st) := by
  subst hp
  exact fun ls H locs hl hW hS => lv_if_lt C.1 C.2.1 hdg ht (fun q => kt q ls H locs hl hW hS) (fun q => kf q ls H locs hl hW hS)
theorem fx_icmp_lt (C : CallFix p m c cc nL s args Ts own) {x y : Int32} {off : Int} {tgt pc' : Nat} (hdg : decode cc pc = .ok (.if_icmp .lt off, 3)) (ht : (pc : Int) + off = (tgt : Int)) (hp : pc + 3 = pc')
    (kt : x < y → fw_H p l e R s m args below meth c cells slots Q nL A Wd (tgt) lv (st)) (kf : ¬ x < y → fw_H p l e R s m args below meth c cells slots Q nL A Wd (pc') lv (st)) : fw_H p l e R s m args below meth c cells slots Q nL A Wd (pc) lv (.int y :: .int x :: st) := by
  subst hp
  exact fun ls H locs hl hW hS => lv_icmp_lt C.1 C.2.1 hdg ht (fun q => kt q ls H locs hl hW hS) (fun q => kf q ls H locs hl hW hS)
theorem fx_if_ge (C : CallFix p m c cc nL s args Ts own) {x : Int32} {off : Int} {tgt pc' : Nat} (hdg : decode cc pc = .ok (.ifCond .ge off, 3)) (ht : (pc : Int) + off = (tgt : Int)) (hp : pc + 3 = pc')
    (kt : 0 ≤ x → fw_H p l e R s m args below meth c cells slots Q nL A Wd (tgt) lv (st)) (kf : ¬ 0 ≤ x → fw_H p l e R s m args below meth c cells slots Q nL A Wd (pc') lv (st)) : fw_H p l e R s m args below meth c cells slots Q nL A Wd (pc) lv (.int x :: st) := by
  subst hp
  exact fun ls H locs hl hW hS => lv_if_ge C.1 C.2.1 hdg ht (fun q => kt q ls H locs hl hW hS) (fun q => kf q ls H locs hl hW hS)
theorem fx_icmp_ge (C : CallFix p m c cc nL s args Ts own) {x y : Int32} {off : Int} {tgt pc' : Nat} (hdg : decode cc pc = .ok (.if_icmp .ge off, 3)) (ht : (pc : Int) + off = (tgt : Int)) (hp : pc + 3 = pc')
    (kt : y ≤ x → fw_H p l e R s m args below meth c cells slots Q nL A Wd (tgt) lv (st)) (kf : ¬ y ≤ x → fw_H p l e R s m args below meth c cells slots Q nL A Wd (pc') lv (st)) : fw_H p l e R s m args below meth c cells slots Q nL A Wd (pc) lv (.int y :: .int x :: st) := by
  subst hp
  exact fun ls H locs hl hW hS => lv_icmp_ge C.1 C.2.1 hdg ht (fun q => kt q ls H locs hl hW hS) (fun q => kf q ls H locs hl hW hS)
theorem fx_if_gt (C : CallFix p m c cc nL s args Ts own) {x : Int32} {off : Int} {tgt pc' : Nat} (hdg : decode cc pc = .ok (.ifCond .gt off, 3)) (ht : (pc : Int) + off = (tgt : Int)) (hp : pc + 3 = pc')
    (kt : 0 < x → fw_H p l e R s m args below meth c cells slots Q nL A Wd (tgt) lv (st)) (kf : ¬ 0 < x → fw_H p l e R s m args below meth c cells slots Q nL A Wd (pc') lv (st)) : fw_H p l e R s m args below meth c cells slots Q nL A Wd (pc) lv (.int x :: st) := by
  subst hp
  exact fun ls H locs hl hW hS => lv_if_gt C.1 C.2.1 hdg ht (fun q => kt q ls H locs hl hW hS) (fun q => kf q ls H locs hl hW hS)
theorem fx_icmp_gt (C : CallFix p m c cc nL s args Ts own) {x y : Int32} {off : Int} {tgt pc' : Nat} (hdg : decode cc pc = .ok (.if_icmp .gt off, 3)) (ht : (pc : Int) + off = (tgt : Int)) (hp : pc + 3 = pc')
    (kt : y < x → fw_H p l e R s m args below meth c cells slots Q nL A Wd (tgt) lv (st)) (kf : ¬ y < x → fw_H p l e R s m args below meth c cells slots Q nL A Wd (pc') lv (st)) : fw_H p l e R s m args below meth c cells slots Q nL A Wd (pc) lv (.int y :: .int x :: st) := by
  subst hp
  exact fun ls H locs hl hW hS => lv_icmp_gt C.1 C.2.1 hdg ht (fun q => kt q ls H locs hl hW hS) (fun q => kf q ls H locs hl hW hS)
theorem fx_if_le (C : CallFix p m c cc nL s args Ts own) {x : Int32} {off : Int} {tgt pc' : Nat} (hdg : decode cc pc = .ok (.ifCond .le off, 3)) (ht : (pc : Int) + off = (tgt : Int)) (hp : pc + 3 = pc')
    (kt : x ≤ 0 → fw_H p l e R s m args below meth c cells slots Q nL A Wd (tgt) lv (st)) (kf : ¬ x ≤ 0 → fw_H p l e R s m args below meth c cells slots Q nL A Wd (pc') lv (st)) : fw_H p l e R s m args below meth c cells slots Q nL A Wd (pc) lv (.int x :: st) := by
  subst hp
  exact fun ls H locs hl hW hS => lv_if_le C.1 C.2.1 hdg ht (fun q => kt q ls H locs hl hW hS) (fun q => kf q ls H locs hl hW hS)
theorem fx_icmp_le (C : CallFix p m c cc nL s args Ts own) {x y : Int32} {off : Int} {tgt pc' : Nat} (hdg : decode cc pc = .ok (.if_icmp .le off, 3)) (ht : (pc : Int) + off = (tgt : Int)) (hp : pc + 3 = pc')
    (kt : x ≤ y → fw_H p l e R s m args below meth c cells slots Q nL A Wd (tgt) lv (st)) (kf : ¬ x ≤ y → fw_H p l e R s m args below meth c cells slots Q nL A Wd (pc') lv (st)) : fw_H p l e R s m args below meth c cells slots Q nL A Wd (pc) lv (.int y :: .int x :: st) := by
  subst hp
  exact fun ls H locs hl hW hS => lv_icmp_le C.1 C.2.1 hdg ht (fun q => kt q ls H locs hl hW hS) (fun q => kf q ls H locs hl hW hS)
theorem fx_swIn (C : CallFix p m c cc nL s args Ts own) {dflt lo hi : Int} {offs : Array Int} {len : Nat} {x : Int32} {off : Int} {tgt : Nat} (hdg : decode cc pc = .ok (.tableswitch dflt lo hi offs, len)) (h1 : ¬ x.toInt < lo) (h2 : ¬ hi < x.toInt) (ho : offs[(x.toInt - lo).toNat]? = some off) (ht : (pc : Int) + off = (tgt : Int))
    (kk : fw_H p l e R s m args below meth c cells slots Q nL A Wd (tgt) lv (st)) : fw_H p l e R s m args below meth c cells slots Q nL A Wd (pc) lv (.int x :: st) :=
  fun ls H locs hl hW hS => lv_tableIn C.1 C.2.1 hdg h1 h2 ho ht (kk ls H locs hl hW hS)
theorem fx_swOut (C : CallFix p m c cc nL s args Ts own) {dflt lo hi : Int} {offs : Array Int} {len : Nat} {x : Int32} {tgt : Nat} (hdg : decode cc pc = .ok (.tableswitch dflt lo hi offs, len)) (h : x.toInt < lo ∨ hi < x.toInt) (ht : (pc : Int) + dflt = (tgt : Int))
    (kk : fw_H p l e R s m args below meth c cells slots Q nL A Wd (tgt) lv (st)) : fw_H p l e R s m args below meth c cells slots Q nL A Wd (pc) lv (.int x :: st) :=
  fun ls H locs hl hW hS => lv_tableOut C.1 C.2.1 hdg h ht (kk ls H locs hl hW hS)
theorem fx_lookup (C : CallFix p m c cc nL s args Ts own) {dflt : Int} {ps : Array (Int × Int)} {len : Nat} {x : Int32} {off : Int} {tgt : Nat} (hdg : decode cc pc = .ok (.lookupswitch dflt ps, len)) (hp : (ps.toList.zip (ps.toList.drop 1)).all (fun (a, next) => a.1 < next.1) = true) (ho : Op.lookupswitch.offset ps.toList dflt x.toInt = off) (ht : (pc : Int) + off = (tgt : Int))
    (kk : fw_H p l e R s m args below meth c cells slots Q nL A Wd (tgt) lv (st)) : fw_H p l e R s m args below meth c cells slots Q nL A Wd (pc) lv (.int x :: st) :=
  fun ls H locs hl hW hS => lv_lookup C.1 C.2.1 hdg hp ho ht (kk ls H locs hl hW hS)
theorem fx_lv (ks : List Nat) (hk : lv_pick lv ks = lv') (kk : fw_H p l e R s m args below meth c cells slots Q nL A Wd (pc) lv' (st)) : fw_H p l e R s m args below meth c cells slots Q nL A Wd (pc) lv (st) :=
  fun ls H locs hl hW hS => kk ls H locs (lv_sub hl ks hk) hW hS
theorem fx_I {I' : Nat → Nat → Int32} (hI : I = I') (kk : fw_G p l e R s m args below meth c cells slots Q nL D aC A g n K I' (pc) lv (st)) : fw_G p l e R s m args below meth c cells slots Q nL D aC A g n K I (pc) lv (st) := hI ▸ kk
theorem fx_geti (C : fw_C p m c cc nL s args Ts own D aC n K) {pc' : Nat} {k ci N : Nat} {T : u_T} {Cn ref : String} {index : Nat} (hk : (K k).1 = ci) (hc : ci < 20) (hcl : fw_cl[ci]? = some (Cn, T, N)) (hin : ∀ w ∈ u_ws Cn T N, w ∈ Ts) (j : Nat) (hj : j < N) (hjn : j < fw_nf ci) (hrf : fw_rf ci j = false) (hlink : (Cond.fieldLink own index ref (T j).2.1 (T j).2.2.1).before args s = true) (hsame : (T j).1 = ref) (hdg : decode cc pc = .ok (.getfield index, 3)) (hp : pc + 3 = pc')
    (kk : fw_G p l e R s m args below meth c cells slots Q nL D aC A g n K I (pc') lv (.int (I k j) :: st)) : fw_G p l e R s m args below meth c cells slots Q nL D aC A g n K I (pc) lv (.ref (g k) :: st) := by
  subst hp
  exact fun ls H locs hl hW hS => va_get C.1.1 C.1.2.1 C.1.2.2.2.2 hin C.1.2.2.2.1 C.2.1 hW.1 k (fw_obj C.2.2 hk hc) hcl j hj hlink (fun x h => by rw [← hsame]; exact h) (v := .int (I k j)) (by rw [fw_fs_get hjn, fw_fd_i hrf]) hdg (kk ls H locs hl hW hS)
theorem fx_getr (C : fw_C p m c cc nL s args Ts own D aC n K) {pc' : Nat} {k ci N : Nat} {T : u_T} {Cn ref : String} {index : Nat} (hk : (K k).1 = ci) (hc : ci < 20) (hcl : fw_cl[ci]? = some (Cn, T, N)) (hin : ∀ w ∈ u_ws Cn T N, w ∈ Ts) (j : Nat) (hj : j < N) (hjn : j < fw_nf ci) (hrf : fw_rf ci j = true) {a : Nat} (hx : ¬ I k j < 0) (ha : (I k j).toNatClampNeg = a) (hlink : (Cond.fieldLink own index ref (T j).2.1 (T j).2.2.1).before args s = true) (hsame : (T j).1 = ref) (hdg : decode cc pc = .ok (.getfield index, 3)) (hp : pc + 3 = pc')
    (kk : fw_G p l e R s m args below meth c cells slots Q nL D aC A g n K I (pc') lv (.ref (g a) :: st)) : fw_G p l e R s m args below meth c cells slots Q nL D aC A g n K I (pc) lv (.ref (g k) :: st) := by
  subst hp
  exact fun ls H locs hl hW hS => va_get C.1.1 C.1.2.1 C.1.2.2.2.2 hin C.1.2.2.2.1 C.2.1 hW.1 k (fw_obj C.2.2 hk hc) hcl j hj hlink (fun x h => by rw [← hsame]; exact h) (v := .ref (g a)) (by rw [fw_fs_get hjn, fw_fd_r hrf hx ha]) hdg (kk ls H locs hl hW hS)
theorem fx_puti (C : fw_C p m c cc nL s args Ts own D aC n K) {pc' : Nat} {I2 : Nat → Nat → Int32} {k ci N : Nat} {T : u_T} {Cn ref : String} {index : Nat} (hk : (K k).1 = ci) (hc : ci < 20) (hcl : fw_cl[ci]? = some (Cn, T, N)) (hin : ∀ w ∈ u_ws Cn T N, w ∈ Ts) (j : Nat) (hj : j < N) (hjn : j < fw_nf ci) (hrf : fw_rf ci j = false) {x : Int32} (ty0 : Nat → FieldType) (hty : ∀ k, k < N → parseFieldDescriptor (T k).2.2.1 = some (ty0 k)) (hnm : ∀ a, a < N → ∀ b, b < N → a ≠ b → (T a).2.1 ≠ (T b).2.1) (hfin : (T j).2.2.2 = false) (eI : I2 = fw_up2 I k j x) {ty : FieldType} (hd : parseFieldDescriptor (T j).2.2.1 = some ty) (hn : narrow ty (.int x) = .int x) (hfit : fits ty (.int x) = true) (hlink : (Cond.fieldLink own index ref (T j).2.1 (T j).2.2.1).before args s = true) (hsame : (T j).1 = ref) (hdg : decode cc pc = .ok (.putfield index, 3)) (hp : pc + 3 = pc')
    (kk : fw_G p l e R s m args below meth c cells slots Q nL D aC A g n K I2 (pc') lv (st)) : fw_G p l e R s m args below meth c cells slots Q nL D aC A g n K I (pc) lv (.int x :: .ref (g k) :: st) := by
  subst hp
  subst eI
  exact fun ls H locs hl hW hS => va_put C.1.1 C.1.2.1 C.1.2.2.2.2 hin ty0 hty hnm C.1.2.2.2.1 C.2.1 hW.1 hW.2 hS k (fw_obj C.2.2 hk hc) hcl j hj hlink (fun x h => by rw [← hsame]; exact h) hfin hd hn hfit (by rw [fw_fs_len]; exact hjn) hdg (fun H1 locs1 hP1 hD1 hS1 => kk ls H1 locs1 hl ⟨fw_toP (fw_objset C.2.2 hk hc hjn (fw_pv_i hrf)) hP1, fw_toD (fw_objset C.2.2 hk hc hjn (fw_pv_i hrf)) hD1⟩ hS1)
theorem fx_putr (C : fw_C p m c cc nL s args Ts own D aC n K) {pc' : Nat} {I2 : Nat → Nat → Int32} {k ci N : Nat} {T : u_T} {Cn ref : String} {index : Nat} (hk : (K k).1 = ci) (hc : ci < 20) (hcl : fw_cl[ci]? = some (Cn, T, N)) (hin : ∀ w ∈ u_ws Cn T N, w ∈ Ts) (j : Nat) (hj : j < N) (hjn : j < fw_nf ci) (hrf : fw_rf ci j = true) {a : Nat} {x : Int32} (hx : ¬ x < 0) (ha : x.toNatClampNeg = a) (ty0 : Nat → FieldType) (hty : ∀ k, k < N → parseFieldDescriptor (T k).2.2.1 = some (ty0 k)) (hnm : ∀ a, a < N → ∀ b, b < N → a ≠ b → (T a).2.1 ≠ (T b).2.1) (hfin : (T j).2.2.2 = false) (eI : I2 = fw_up2 I k j x) {ty : FieldType} (hd : parseFieldDescriptor (T j).2.2.1 = some ty) (hn : narrow ty (.ref (g a)) = .ref (g a)) (hfit : fits ty (.ref (g a)) = true) (hlink : (Cond.fieldLink own index ref (T j).2.1 (T j).2.2.1).before args s = true) (hsame : (T j).1 = ref) (hdg : decode cc pc = .ok (.putfield index, 3)) (hp : pc + 3 = pc')
    (kk : fw_G p l e R s m args below meth c cells slots Q nL D aC A g n K I2 (pc') lv (st)) : fw_G p l e R s m args below meth c cells slots Q nL D aC A g n K I (pc) lv (.ref (g a) :: .ref (g k) :: st) := by
  subst hp
  subst eI
  exact fun ls H locs hl hW hS => va_put C.1.1 C.1.2.1 C.1.2.2.2.2 hin ty0 hty hnm C.1.2.2.2.1 C.2.1 hW.1 hW.2 hS k (fw_obj C.2.2 hk hc) hcl j hj hlink (fun x h => by rw [← hsame]; exact h) hfin hd hn hfit (by rw [fw_fs_len]; exact hjn) hdg (fun H1 locs1 hP1 hD1 hS1 => kk ls H1 locs1 hl ⟨fw_toP (fw_objset C.2.2 hk hc hjn (fw_pv_r hrf hx ha)) hP1, fw_toD (fw_objset C.2.2 hk hc hjn (fw_pv_r hrf hx ha)) hD1⟩ hS1)
theorem fx_putiF (C : fw_C p m c cc nL s args Ts own D aC n K) {pc' : Nat} {I2 : Nat → Nat → Int32} {k ci N : Nat} {T : u_T} {Cn ref : String} {index : Nat} (hk : (K k).1 = ci) (hc : ci < 20) (hcl : fw_cl[ci]? = some (Cn, T, N)) (hin : ∀ w ∈ u_ws Cn T N, w ∈ Ts) (j : Nat) (hj : j < N) (hjn : j < fw_nf ci) (hrf : fw_rf ci j = false) {x : Int32} (ty0 : Nat → FieldType) (hty : ∀ k, k < N → parseFieldDescriptor (T k).2.2.1 = some (ty0 k)) (hnm : ∀ a, a < N → ∀ b, b < N → a ≠ b → (T a).2.1 ≠ (T b).2.1) (hfin : (T j).2.2.2 = true) (hin2 : meth.name = "<init>") (hdecl : (T j).1 = own) (eI : I2 = fw_up2 I k j x) {ty : FieldType} (hd : parseFieldDescriptor (T j).2.2.1 = some ty) (hn : narrow ty (.int x) = .int x) (hfit : fits ty (.int x) = true) (hlink : (Cond.fieldLink own index ref (T j).2.1 (T j).2.2.1).before args s = true) (hsame : (T j).1 = ref) (hdg : decode cc pc = .ok (.putfield index, 3)) (hp : pc + 3 = pc')
    (kk : fw_G p l e R s m args below meth c cells slots Q nL D aC A g n K I2 (pc') lv (st)) : fw_G p l e R s m args below meth c cells slots Q nL D aC A g n K I (pc) lv (.int x :: .ref (g k) :: st) := by
  subst hp
  subst eI
  exact fun ls H locs hl hW hS => va_putF C.1.1 C.1.2.1 C.1.2.2.2.2 hin ty0 hty hnm C.1.2.2.2.1 C.2.1 hW.1 hW.2 hS k (fw_obj C.2.2 hk hc) hcl j hj hlink (fun x h => by rw [← hsame]; exact h) hfin hin2 hdecl hd hn hfit (by rw [fw_fs_len]; exact hjn) hdg (fun H1 locs1 hP1 hD1 hS1 => kk ls H1 locs1 hl ⟨fw_toP (fw_objset C.2.2 hk hc hjn (fw_pv_i hrf)) hP1, fw_toD (fw_objset C.2.2 hk hc hjn (fw_pv_i hrf)) hD1⟩ hS1)
theorem fx_putrF (C : fw_C p m c cc nL s args Ts own D aC n K) {pc' : Nat} {I2 : Nat → Nat → Int32} {k ci N : Nat} {T : u_T} {Cn ref : String} {index : Nat} (hk : (K k).1 = ci) (hc : ci < 20) (hcl : fw_cl[ci]? = some (Cn, T, N)) (hin : ∀ w ∈ u_ws Cn T N, w ∈ Ts) (j : Nat) (hj : j < N) (hjn : j < fw_nf ci) (hrf : fw_rf ci j = true) {a : Nat} {x : Int32} (hx : ¬ x < 0) (ha : x.toNatClampNeg = a) (ty0 : Nat → FieldType) (hty : ∀ k, k < N → parseFieldDescriptor (T k).2.2.1 = some (ty0 k)) (hnm : ∀ a, a < N → ∀ b, b < N → a ≠ b → (T a).2.1 ≠ (T b).2.1) (hfin : (T j).2.2.2 = true) (hin2 : meth.name = "<init>") (hdecl : (T j).1 = own) (eI : I2 = fw_up2 I k j x) {ty : FieldType} (hd : parseFieldDescriptor (T j).2.2.1 = some ty) (hn : narrow ty (.ref (g a)) = .ref (g a)) (hfit : fits ty (.ref (g a)) = true) (hlink : (Cond.fieldLink own index ref (T j).2.1 (T j).2.2.1).before args s = true) (hsame : (T j).1 = ref) (hdg : decode cc pc = .ok (.putfield index, 3)) (hp : pc + 3 = pc')
    (kk : fw_G p l e R s m args below meth c cells slots Q nL D aC A g n K I2 (pc') lv (st)) : fw_G p l e R s m args below meth c cells slots Q nL D aC A g n K I (pc) lv (.ref (g a) :: .ref (g k) :: st) := by
  subst hp
  subst eI
  exact fun ls H locs hl hW hS => va_putF C.1.1 C.1.2.1 C.1.2.2.2.2 hin ty0 hty hnm C.1.2.2.2.1 C.2.1 hW.1 hW.2 hS k (fw_obj C.2.2 hk hc) hcl j hj hlink (fun x h => by rw [← hsame]; exact h) hfin hin2 hdecl hd hn hfit (by rw [fw_fs_len]; exact hjn) hdg (fun H1 locs1 hP1 hD1 hS1 => kk ls H1 locs1 hl ⟨fw_toP (fw_objset C.2.2 hk hc hjn (fw_pv_r hrf hx ha)) hP1, fw_toD (fw_objset C.2.2 hk hc hjn (fw_pv_r hrf hx ha)) hD1⟩ hS1)
theorem fx_getiN (C : fw_C p m c cc nL s args Ts own D aC n K) {pc' : Nat} {host : String} {k ci N : Nat} {T : u_T} {Cn ref : String} {index : Nat} (hk : (K k).1 = ci) (hc : ci < 20) (hcl : fw_cl[ci]? = some (Cn, T, N)) (hin : ∀ w ∈ u_ws Cn T N, w ∈ Ts) (j : Nat) (hj : j < N) (hjn : j < fw_nf ci) (hrf : fw_rf ci j = false) (hlink : (Cond.fieldLinkNest own index ref (T j).2.1 (T j).2.2.1 host).before args s = true) (hsame : (T j).1 = ref) (hdg : decode cc pc = .ok (.getfield index, 3)) (hp : pc + 3 = pc')
    (kk : fw_G p l e R s m args below meth c cells slots Q nL D aC A g n K I (pc') lv (.int (I k j) :: st)) : fw_G p l e R s m args below meth c cells slots Q nL D aC A g n K I (pc) lv (.ref (g k) :: st) := by
  subst hp
  exact fun ls H locs hl hW hS => va_getN C.1.1 C.1.2.1 C.1.2.2.2.2 hin C.1.2.2.2.1 C.2.1 hW.1 k (fw_obj C.2.2 hk hc) hcl j hj hlink (fun x h => by rw [← hsame]; exact h) (v := .int (I k j)) (by rw [fw_fs_get hjn, fw_fd_i hrf]) hdg (kk ls H locs hl hW hS)
theorem fx_getrN (C : fw_C p m c cc nL s args Ts own D aC n K) {pc' : Nat} {host : String} {k ci N : Nat} {T : u_T} {Cn ref : String} {index : Nat} (hk : (K k).1 = ci) (hc : ci < 20) (hcl : fw_cl[ci]? = some (Cn, T, N)) (hin : ∀ w ∈ u_ws Cn T N, w ∈ Ts) (j : Nat) (hj : j < N) (hjn : j < fw_nf ci) (hrf : fw_rf ci j = true) {a : Nat} (hx : ¬ I k j < 0) (ha : (I k j).toNatClampNeg = a) (hlink : (Cond.fieldLinkNest own index ref (T j).2.1 (T j).2.2.1 host).before args s = true) (hsame : (T j).1 = ref) (hdg : decode cc pc = .ok (.getfield index, 3)) (hp : pc + 3 = pc')
    (kk : fw_G p l e R s m args below meth c cells slots Q nL D aC A g n K I (pc') lv (.ref (g a) :: st)) : fw_G p l e R s m args below meth c cells slots Q nL D aC A g n K I (pc) lv (.ref (g k) :: st) := by
  subst hp
  exact fun ls H locs hl hW hS => va_getN C.1.1 C.1.2.1 C.1.2.2.2.2 hin C.1.2.2.2.1 C.2.1 hW.1 k (fw_obj C.2.2 hk hc) hcl j hj hlink (fun x h => by rw [← hsame]; exact h) (v := .ref (g a)) (by rw [fw_fs_get hjn, fw_fd_r hrf hx ha]) hdg (kk ls H locs hl hW hS)
theorem fx_putiN (C : fw_C p m c cc nL s args Ts own D aC n K) {pc' : Nat} {I2 : Nat → Nat → Int32} {host : String} {k ci N : Nat} {T : u_T} {Cn ref : String} {index : Nat} (hk : (K k).1 = ci) (hc : ci < 20) (hcl : fw_cl[ci]? = some (Cn, T, N)) (hin : ∀ w ∈ u_ws Cn T N, w ∈ Ts) (j : Nat) (hj : j < N) (hjn : j < fw_nf ci) (hrf : fw_rf ci j = false) {x : Int32} (ty0 : Nat → FieldType) (hty : ∀ k, k < N → parseFieldDescriptor (T k).2.2.1 = some (ty0 k)) (hnm : ∀ a, a < N → ∀ b, b < N → a ≠ b → (T a).2.1 ≠ (T b).2.1) (hfin : (T j).2.2.2 = false) (eI : I2 = fw_up2 I k j x) {ty : FieldType} (hd : parseFieldDescriptor (T j).2.2.1 = some ty) (hn : narrow ty (.int x) = .int x) (hfit : fits ty (.int x) = true) (hlink : (Cond.fieldLinkNest own index ref (T j).2.1 (T j).2.2.1 host).before args s = true) (hsame : (T j).1 = ref) (hdg : decode cc pc = .ok (.putfield index, 3)) (hp : pc + 3 = pc')
    (kk : fw_G p l e R s m args below meth c cells slots Q nL D aC A g n K I2 (pc') lv (st)) : fw_G p l e R s m args below meth c cells slots Q nL D aC A g n K I (pc) lv (.int x :: .ref (g k) :: st) := by
  subst hp
  subst eI
  exact fun ls H locs hl hW hS => va_putN C.1.1 C.1.2.1 C.1.2.2.2.2 hin ty0 hty hnm C.1.2.2.2.1 C.2.1 hW.1 hW.2 hS k (fw_obj C.2.2 hk hc) hcl j hj hlink (fun x h => by rw [← hsame]; exact h) hfin hd hn hfit (by rw [fw_fs_len]; exact hjn) hdg (fun H1 locs1 hP1 hD1 hS1 => kk ls H1 locs1 hl ⟨fw_toP (fw_objset C.2.2 hk hc hjn (fw_pv_i hrf)) hP1, fw_toD (fw_objset C.2.2 hk hc hjn (fw_pv_i hrf)) hD1⟩ hS1)
theorem fx_putrN (C : fw_C p m c cc nL s args Ts own D aC n K) {pc' : Nat} {I2 : Nat → Nat → Int32} {host : String} {k ci N : Nat} {T : u_T} {Cn ref : String} {index : Nat} (hk : (K k).1 = ci) (hc : ci < 20) (hcl : fw_cl[ci]? = some (Cn, T, N)) (hin : ∀ w ∈ u_ws Cn T N, w ∈ Ts) (j : Nat) (hj : j < N) (hjn : j < fw_nf ci) (hrf : fw_rf ci j = true) {a : Nat} {x : Int32} (hx : ¬ x < 0) (ha : x.toNatClampNeg = a) (ty0 : Nat → FieldType) (hty : ∀ k, k < N → parseFieldDescriptor (T k).2.2.1 = some (ty0 k)) (hnm : ∀ a, a < N → ∀ b, b < N → a ≠ b → (T a).2.1 ≠ (T b).2.1) (hfin : (T j).2.2.2 = false) (eI : I2 = fw_up2 I k j x) {ty : FieldType} (hd : parseFieldDescriptor (T j).2.2.1 = some ty) (hn : narrow ty (.ref (g a)) = .ref (g a)) (hfit : fits ty (.ref (g a)) = true) (hlink : (Cond.fieldLinkNest own index ref (T j).2.1 (T j).2.2.1 host).before args s = true) (hsame : (T j).1 = ref) (hdg : decode cc pc = .ok (.putfield index, 3)) (hp : pc + 3 = pc')
    (kk : fw_G p l e R s m args below meth c cells slots Q nL D aC A g n K I2 (pc') lv (st)) : fw_G p l e R s m args below meth c cells slots Q nL D aC A g n K I (pc) lv (.ref (g a) :: .ref (g k) :: st) := by
  subst hp
  subst eI
  exact fun ls H locs hl hW hS => va_putN C.1.1 C.1.2.1 C.1.2.2.2.2 hin ty0 hty hnm C.1.2.2.2.1 C.2.1 hW.1 hW.2 hS k (fw_obj C.2.2 hk hc) hcl j hj hlink (fun x h => by rw [← hsame]; exact h) hfin hd hn hfit (by rw [fw_fs_len]; exact hjn) hdg (fun H1 locs1 hP1 hD1 hS1 => kk ls H1 locs1 hl ⟨fw_toP (fw_objset C.2.2 hk hc hjn (fw_pv_r hrf hx ha)) hP1, fw_toD (fw_objset C.2.2 hk hc hjn (fw_pv_r hrf hx ha)) hD1⟩ hS1)
theorem fx_iald (C : fw_C p m c cc nL s args Ts own D aC n K) {pc' : Nat} {k : Nat} {i : Int32} (hk : (K k).1 = 20) (hin : fw_ix i (K k).2 = true) (hdg : decode cc pc = .ok (.iaload, 1)) (hp : pc + 1 = pc')
    (kk : fw_G p l e R s m args below meth c cells slots Q nL D aC A g n K I (pc') lv (.int (I k i.toNatClampNeg) :: st)) : fw_G p l e R s m args below meth c cells slots Q nL D aC A g n K I (pc) lv (.int i :: .ref (g k) :: st) := by
  subst hp
  exact fun ls H locs hl hW hS => va_iald C.1.1 C.1.2.1 C.2.1 hW.1 k 0 (fw_arr20 C.2.2 hk) rfl (fw_ix_in hin) hdg (kk ls H locs hl hW hS)
theorem fx_zald (C : fw_C p m c cc nL s args Ts own D aC n K) {pc' : Nat} {k : Nat} {i : Int32} (hk : (K k).1 = 21) (hin : fw_ix i (K k).2 = true) (hdg : decode cc pc = .ok (.baload, 1)) (hp : pc + 1 = pc')
    (kk : fw_G p l e R s m args below meth c cells slots Q nL D aC A g n K I (pc') lv (.int (I k i.toNatClampNeg) :: st)) : fw_G p l e R s m args below meth c cells slots Q nL D aC A g n K I (pc) lv (.int i :: .ref (g k) :: st) := by
  subst hp
  exact fun ls H locs hl hW hS => va_zald C.1.1 C.1.2.1 C.2.1 hW.1 k 1 (fw_arr21 C.2.2 hk) rfl (fw_ix_in hin) hdg (kk ls H locs hl hW hS)
theorem fx_iast (C : fw_C p m c cc nL s args Ts own D aC n K) {pc' : Nat} {k : Nat} {i x : Int32} {I2 : Nat → Nat → Int32} (hk : (K k).1 = 20) (hin : fw_ix i (K k).2 = true) (eI : I2 = fw_up2 I k i.toNatClampNeg x) (hdg : decode cc pc = .ok (.iastore, 1)) (hp : pc + 1 = pc')
    (kk : fw_G p l e R s m args below meth c cells slots Q nL D aC A g n K I2 (pc') lv (st)) : fw_G p l e R s m args below meth c cells slots Q nL D aC A g n K I (pc) lv (.int x :: .int i :: .ref (g k) :: st) := by
  subst hp
  subst eI
  exact fun ls H locs hl hW hS => va_iast C.1.1 C.1.2.1 C.2.1 hW.1 hW.2 hS k 0 (fw_arr20 C.2.2 hk) rfl (fw_ix_in hin) hdg (fun H1 locs1 hP1 hD1 hS1 => kk ls H1 locs1 hl ⟨fw_toP (fw_arrset20 C.2.2 hk) hP1, fw_toD (fw_arrset20 C.2.2 hk) hD1⟩ hS1)
theorem fx_zast (C : fw_C p m c cc nL s args Ts own D aC n K) {pc' : Nat} {k : Nat} {i x : Int32} {I2 : Nat → Nat → Int32} (hk : (K k).1 = 21) (hin : fw_ix i (K k).2 = true) (hb : fw_bl x = true) (eI : I2 = fw_up2 I k i.toNatClampNeg x) (hdg : decode cc pc = .ok (.bastore, 1)) (hp : pc + 1 = pc')
    (kk : fw_G p l e R s m args below meth c cells slots Q nL D aC A g n K I2 (pc') lv (st)) : fw_G p l e R s m args below meth c cells slots Q nL D aC A g n K I (pc) lv (.int x :: .int i :: .ref (g k) :: st) := by
  subst hp
  subst eI
  exact fun ls H locs hl hW hS => va_zast C.1.1 C.1.2.1 C.2.1 hW.1 hW.2 hS k 1 (fw_arr21 C.2.2 hk) rfl (fw_ix_in hin) hdg (fun H1 locs1 hP1 hD1 hS1 => kk ls H1 locs1 hl ⟨fw_toP (fw_arrset21 C.2.2 hk (fw_nar hb)) hP1, fw_toD (fw_arrset21 C.2.2 hk (fw_nar hb)) hD1⟩ hS1)
theorem fx_aald23 (C : fw_C p m c cc nL s args Ts own D aC n K) {pc' : Nat} {k a : Nat} {i : Int32} (hk : (K k).1 = 23) (hin : fw_ix i (K k).2 = true) (hx : ¬ I k i.toNatClampNeg < 0) (ha : (I k i.toNatClampNeg).toNatClampNeg = a) (hdg : decode cc pc = .ok (.aaload, 1)) (hp : pc + 1 = pc')
    (kk : fw_G p l e R s m args below meth c cells slots Q nL D aC A g n K I (pc') lv (.ref (g a) :: st)) : fw_G p l e R s m args below meth c cells slots Q nL D aC A g n K I (pc) lv (.int i :: .ref (g k) :: st) := by
  subst hp
  exact fun ls H locs hl hW hS => va_aldq C.1.1 C.1.2.1 C.2.1 hW.1 k 3 (fw_arr23 C.2.2 hk) rfl (fw_ix_in hin) hdg (by rw [fw_ro_some hx, ha]; exact kk ls H locs hl hW hS)
theorem fx_aast23 (C : fw_C p m c cc nL s args Ts own D aC n K) {pc' : Nat} {k a : Nat} {i x : Int32} {I2 : Nat → Nat → Int32} (hk : (K k).1 = 23) (hin : fw_ix i (K k).2 = true) (eI : I2 = fw_up2 I k i.toNatClampNeg x) (ha : (K a).1 = fw_el 23) (hx : ¬ x < 0) (hxa : x.toNatClampNeg = a) (hdg : decode cc pc = .ok (.aastore, 1)) (hp : pc + 1 = pc')
    (kk : fw_G p l e R s m args below meth c cells slots Q nL D aC A g n K I2 (pc') lv (st)) : fw_G p l e R s m args below meth c cells slots Q nL D aC A g n K I (pc) lv (.ref (g a) :: .int i :: .ref (g k) :: st) := by
  subst hp
  subst eI
  exact fun ls H locs hl hW hS => va_astq C.1.1 C.1.2.1 C.2.1 hW.1 hW.2 hS k 3 a (fw_el 23) (fw_arr23 C.2.2 hk) rfl (fw_obj C.2.2 ha (by decide)) rfl (fw_ix_in hin) hdg (fun H1 locs1 hP1 hD1 hS1 => kk ls H1 locs1 hl ⟨fw_toP (fw_arrset23 C.2.2 hk hx hxa) hP1, fw_toD (fw_arrset23 C.2.2 hk hx hxa) hD1⟩ hS1)
theorem fx_aald24 (C : fw_C p m c cc nL s args Ts own D aC n K) {pc' : Nat} {k a : Nat} {i : Int32} (hk : (K k).1 = 24) (hin : fw_ix i (K k).2 = true) (hx : ¬ I k i.toNatClampNeg < 0) (ha : (I k i.toNatClampNeg).toNatClampNeg = a) (hdg : decode cc pc = .ok (.aaload, 1)) (hp : pc + 1 = pc')
    (kk : fw_G p l e R s m args below meth c cells slots Q nL D aC A g n K I (pc') lv (.ref (g a) :: st)) : fw_G p l e R s m args below meth c cells slots Q nL D aC A g n K I (pc) lv (.int i :: .ref (g k) :: st) := by
  subst hp
  exact fun ls H locs hl hW hS => va_aldq C.1.1 C.1.2.1 C.2.1 hW.1 k 4 (fw_arr24 C.2.2 hk) rfl (fw_ix_in hin) hdg (by rw [fw_ro_some hx, ha]; exact kk ls H locs hl hW hS)
theorem fx_aast24 (C : fw_C p m c cc nL s args Ts own D aC n K) {pc' : Nat} {k a : Nat} {i x : Int32} {I2 : Nat → Nat → Int32} (hk : (K k).1 = 24) (hin : fw_ix i (K k).2 = true) (eI : I2 = fw_up2 I k i.toNatClampNeg x) (ha : (K a).1 = fw_el 24) (hx : ¬ x < 0) (hxa : x.toNatClampNeg = a) (hdg : decode cc pc = .ok (.aastore, 1)) (hp : pc + 1 = pc')
    (kk : fw_G p l e R s m args below meth c cells slots Q nL D aC A g n K I2 (pc') lv (st)) : fw_G p l e R s m args below meth c cells slots Q nL D aC A g n K I (pc) lv (.ref (g a) :: .int i :: .ref (g k) :: st) := by
  subst hp
  subst eI
  exact fun ls H locs hl hW hS => va_astq C.1.1 C.1.2.1 C.2.1 hW.1 hW.2 hS k 4 a (fw_el 24) (fw_arr24 C.2.2 hk) rfl (fw_obj C.2.2 ha (by decide)) rfl (fw_ix_in hin) hdg (fun H1 locs1 hP1 hD1 hS1 => kk ls H1 locs1 hl ⟨fw_toP (fw_arrset24 C.2.2 hk hx hxa) hP1, fw_toD (fw_arrset24 C.2.2 hk hx hxa) hD1⟩ hS1)
theorem fx_aald25 (C : fw_C p m c cc nL s args Ts own D aC n K) {pc' : Nat} {k a : Nat} {i : Int32} (hk : (K k).1 = 25) (hin : fw_ix i (K k).2 = true) (hx : ¬ I k i.toNatClampNeg < 0) (ha : (I k i.toNatClampNeg).toNatClampNeg = a) (hdg : decode cc pc = .ok (.aaload, 1)) (hp : pc + 1 = pc')
    (kk : fw_G p l e R s m args below meth c cells slots Q nL D aC A g n K I (pc') lv (.ref (g a) :: st)) : fw_G p l e R s m args below meth c cells slots Q nL D aC A g n K I (pc) lv (.int i :: .ref (g k) :: st) := by
  subst hp
  exact fun ls H locs hl hW hS => va_aldq C.1.1 C.1.2.1 C.2.1 hW.1 k 5 (fw_arr25 C.2.2 hk) rfl (fw_ix_in hin) hdg (by rw [fw_ro_some hx, ha]; exact kk ls H locs hl hW hS)
theorem fx_aast25 (C : fw_C p m c cc nL s args Ts own D aC n K) {pc' : Nat} {k a : Nat} {i x : Int32} {I2 : Nat → Nat → Int32} (hk : (K k).1 = 25) (hin : fw_ix i (K k).2 = true) (eI : I2 = fw_up2 I k i.toNatClampNeg x) (ha : (K a).1 = fw_el 25) (hx : ¬ x < 0) (hxa : x.toNatClampNeg = a) (hdg : decode cc pc = .ok (.aastore, 1)) (hp : pc + 1 = pc')
    (kk : fw_G p l e R s m args below meth c cells slots Q nL D aC A g n K I2 (pc') lv (st)) : fw_G p l e R s m args below meth c cells slots Q nL D aC A g n K I (pc) lv (.ref (g a) :: .int i :: .ref (g k) :: st) := by
  subst hp
  subst eI
  exact fun ls H locs hl hW hS => va_astq C.1.1 C.1.2.1 C.2.1 hW.1 hW.2 hS k 5 a (fw_el 25) (fw_arr25 C.2.2 hk) rfl (fw_obj C.2.2 ha (by decide)) rfl (fw_ix_in hin) hdg (fun H1 locs1 hP1 hD1 hS1 => kk ls H1 locs1 hl ⟨fw_toP (fw_arrset25 C.2.2 hk hx hxa) hP1, fw_toD (fw_arrset25 C.2.2 hk hx hxa) hD1⟩ hS1)
end FWR
end
section
/-! the words: those of the tables that any later state keeps -/
theorem fw_gw {a : Cond} {L : List Cond} (h : ∀ w ∈ L, w ∈ fw_ws) : GoodIn (a :: fw_ws) L := fun w hw => ⟨List.mem_cons_of_mem _ (h w hw), good_of_word (List.mem_filter.mp (h w hw)).2⟩
theorem fw_gN {a b : Cond} (h : b ∈ fw_ws) : GoodIn (a :: fw_ws) (b :: fw_ws) := fw_gw (fun w hw => by
  rcases List.mem_cons.mp hw with rfl | hw
  · exact h
  · exact hw)
theorem fw_gS {a b : Cond} {own : String} {idx : Nat} {y : MethodName} (h1 : Cond.methodLink own idx y ∈ fw_ws) (h2 : Cond.static y ∈ fw_ws) (h3 : Cond.initialized y.cls ∈ fw_ws) (h4 : b ∈ fw_ws) : GoodIn (a :: fw_ws) (va_wsS own idx y (b :: fw_ws)) := fw_gw (fun w hw => by
  unfold va_wsS at hw
  rcases List.mem_append.mp hw with h | h
  · simp only [List.mem_cons, List.not_mem_nil, or_false] at h
    rcases h with rfl | rfl | rfl
    · exact h1
    · exact h2
    · exact h3
  · rcases List.mem_cons.mp h with rfl | h
    · exact h4
    · exact h)
theorem fw_gV {a b : Cond} {own C : String} {idx : Nat} {y : MethodName} (h1 : Cond.methodLink own idx y ∈ fw_ws) (h2 : Cond.instanceMethod y ∈ fw_ws) (h3 : Cond.selects C y y ∈ fw_ws) (h4 : Cond.initialized C ∈ fw_ws) (h5 : b ∈ fw_ws) : GoodIn (a :: fw_ws) (wsV own idx C y (b :: fw_ws)) := fw_gw (fun w hw => by
  unfold wsV at hw
  rcases List.mem_append.mp hw with h | h
  · simp only [List.mem_cons, List.not_mem_nil, or_false] at h
    rcases h with rfl | rfl | rfl | rfl
    · exact h1
    · exact h2
    · exact h3
    · exact h4
  · rcases List.mem_cons.mp h with rfl | h
    · exact h5
    · exact h)
theorem fw_N_warm {w : Cond} (hw : fw_isN w = true) {s U : State} (hW : s.WarmedH U.vm) (h : va_Nw w s) : va_Nw w U := by
  cases w <;> first | (simp [fw_isN] at hw; done) | exact va_Nw.warmF hW h | exact va_Nw.warmM hW h
theorem fw_N_same {w : Cond} (hw : fw_isN w = true) {s U : State} (hv : s.vm = U.vm) (h : va_Nw w s) : va_Nw w U := by
  cases w <;> first | (simp [fw_isN] at hw; done) | exact va_Nw.same rfl hv h
/-- the links to members of nest mates -/
def fw_N (U : State) : Prop := (∀ w ∈ fw_nest, va_Nw w U) ∧ va_AO "FencedLedger$Store" U ∧ va_AO "FencedLedger$Message" U ∧ va_AO "FencedLedger$Recoverer" U
theorem fw_N.warm {s U : State} (hW : s.WarmedH U.vm) (h : fw_N s) : fw_N U := ⟨fun w hw => fw_N_warm (List.mem_filter.mp hw).2 hW (h.1 w hw), h.2.1.moved hW.alike, h.2.2.1.moved hW.alike, h.2.2.2.moved hW.alike⟩
theorem fw_N.same {s U : State} (hv : s.vm = U.vm) (h : fw_N s) : fw_N U := ⟨fun w hw => fw_N_same (List.mem_filter.mp hw).2 hv (h.1 w hw), h.2.1.moved (hv ▸ Vm.Alike.refl s.vm), h.2.2.1.moved (hv ▸ Vm.Alike.refl s.vm), h.2.2.2.moved (hv ▸ Vm.Alike.refl s.vm)⟩
/-- the memory I lies in the state U -/
def fw_B (D : va_G) (aC : Nat → ClassId) (g : Nat → Nat) (n : Nat) (K : Nat → Nat × Nat) (I : Nat → Nat → Int32) (U : State) : Prop :=
  va_P D fw_cl (fw_W g n (fw_M aC g K I)) U.heap ∧ va_K D fw_cl (fw_tys aC) U ∧ fw_N U
def fw_A (g : Nat → Nat) (n sz : Nat) : Nat → Prop := fun q => (∃ k, k < n ∧ q = g k) ∨ sz ≤ q
def fw_pre (D : va_G) (aC : Nat → ClassId) (g : Nat → Nat) (n : Nat) (K : Nat → Nat × Nat) (I : Nat → Nat → Int32) (sz : Nat) (av : List Value) : Array Value → State → Prop :=
  va_Pc av (fun U => U.heap.size = sz ∧ fw_B D aC g n K I U ∧ va_D (fun _ => True) (fw_W g n (fw_M aC g K I)))
theorem fw_D_any {A : Nat → Prop} {g : Nat → Nat} {n : Nat} {M M' : Nat → va_E} (h : va_D A (fw_W g n M)) : va_D A (fw_W g n M') := by
  refine ⟨fun i j x y hi hj hxy => ?_, fun k q hk => ?_⟩
  · obtain ⟨li, rfl⟩ := fw_at hi
    obtain ⟨lj, rfl⟩ := fw_at hj
    exact h.1 i j _ _ (fw_get li) (fw_get lj) hxy
  · obtain ⟨lk, rfl⟩ := fw_at hk
    exact h.2 k _ (fw_get lk)
theorem fw_D_self {A : Nat → Prop} {g : Nat → Nat} {n sz : Nat} {M : Nat → va_E} (h : va_D A (fw_W g n M)) : va_D (fw_A g n sz) (fw_W g n M) :=
  ⟨h.1, fun k q hk => by obtain ⟨lk, rfl⟩ := fw_at hk; exact Or.inl ⟨k, lk, rfl⟩⟩
theorem fw_free {A : Nat → Prop} {g : Nat → Nat} {n : Nat} {M : Nat → va_E} {H0 H : Heap} {locs : List Loc} (hD : va_D A (fw_W g n M)) (hS : va_S A H0 H locs) (hA : ∀ q, H0.size ≤ q → A q) : ∀ q, fw_A g n H.size q → A q := by
  intro q h
  rcases h with ⟨k, hk, rfl⟩ | h
  · exact hD.2 k _ (fw_get hk)
  · exact hA q (Nat.le_trans hS.1 h)
theorem fw_pre_blind {D : va_G} {aC : Nat → ClassId} {g : Nat → Nat} {n : Nat} {K : Nat → Nat × Nat} {I : Nat → Nat → Int32} {sz : Nat} {av : List Value} : FrameBlind (fw_pre D aC g n K I sz av) := by
  intro a U g' mk q
  obtain ⟨q0, q1, ⟨qP, qK, qN⟩, qD⟩ := q
  exact ⟨q0, q1, ⟨qP, va_K.moved (u := U) (U := U.calling g' mk a) (Vm.Alike.refl U.vm) qK, fw_N.same (U := U.calling g' mk a) rfl qN⟩, qD⟩
/-- the contracts: over the memory I the method answers Rr (its answer and the memory behind it) -/
def fw_Mi (l : Launch) (y : MethodName) (ws : List Cond) (rm : Room) (D : va_G) (aC : Nat → ClassId) (g : Nat → Nat) (n : Nat) (K : Nat → Nat × Nat) (I : Nat → Nat → Int32) (av : List Value) (Rr : Int32 × (Nat → Nat → Int32)) : Prop :=
  ∀ sz, Met l y ws rm (fw_pre D aC g n K I sz av) (va_Qi (fun r u => (r, u) = Rr) (fun u t => fw_B D aC g n K u t) (fw_A g n sz)) 0 0 (fw_A g n sz)
def fw_Mv (l : Launch) (y : MethodName) (ws : List Cond) (rm : Room) (D : va_G) (aC : Nat → ClassId) (g : Nat → Nat) (n : Nat) (K : Nat → Nat × Nat) (I : Nat → Nat → Int32) (av : List Value) (Rr : Nat → Nat → Int32) : Prop :=
  ∀ sz, Met l y ws rm (fw_pre D aC g n K I sz av) (va_Qv (fun u => u = Rr) (fun u t => fw_B D aC g n K u t) (fw_A g n sz)) 0 0 (fw_A g n sz)
def fw_Mr (l : Launch) (y : MethodName) (ws : List Cond) (rm : Room) (D : va_G) (aC : Nat → ClassId) (g : Nat → Nat) (n : Nat) (K : Nat → Nat × Nat) (I : Nat → Nat → Int32) (av : List Value) (Rr : Int32 × (Nat → Nat → Int32)) : Prop :=
  ∀ sz, Met l y ws rm (fw_pre D aC g n K I sz av) (va_Qr (fun u => u = Rr.2) (fun u a t => a = g Rr.1.toNatClampNeg ∧ fw_B D aC g n K u t) (fw_A g n sz)) 0 0 (fw_A g n sz)

section FWH
variable {p : Program} {l : Launch} {e : Env} {R : Room} {s : State} {m : MethodId} {args : Array Value} {below : List Frame} {meth : Method} {c : Code} {cells slots : Nat} {Q : State → Prop}
variable {cc bytes : ByteArray} {nL maxL : Nat} {Ts ws ws' : List Cond} {own : String} {D : va_G} {aC : Nat → ClassId} {A : Nat → Prop} {g : Nat → Nat} {n : Nat} {K : Nat → Nat × Nat} {I I2 : Nat → Nat → Int32} {pc : Nat} {lv : List (Nat × Value)} {st st0 As av : List Value} {y : MethodName} {rm : Room} {ret : Option FieldType} {index na : Nat}

theorem fw_ofGi {rt : FieldType} {Rr : Int32 × (Nat → Nat → Int32)} (hy : plainName y.cls = true) (hn : ∀ k, (K k).1 < 99 → k < n) (hlen : (lg_sl av).length ≤ maxL) (hw : ws = Cond.code y cc maxL (some rt) :: ws')
    (body : ∀ (p : Program) (e : Env) (s : State) (m : MethodId) (args : Array Value) (below : List Frame) (meth : Method) (c : Code) (A : Nat → Prop) (Q : State → Prop), fw_C p m c cc maxL s args ws y.cls D aC n K → fw_N s → (∀ q, s.heap.size ≤ q → A q) → (∀ (I' : Nat → Nat → Int32) (lv : List (Nat × Value)) (v : Int32) (hnv : narrow rt (.int v) = .int v) (pc : Nat), decode cc pc = .ok (.ireturn, 1) → some (v, I') = some Rr → fw_G p l e rm s m args below meth c 0 0 Q maxL D aC A g n K I' (pc) lv ([.int v])) → fw_G p l e rm s m args below meth c 0 0 Q maxL D aC A g n K I (0) (lv_args 0 av) ([])) : fw_Mi l y ws rm D aC g n K I av Rr := by
  intro sz
  refine Met.ofW (cc := cc) (maxL := maxL) (ret := (some rt)) hy hw ?_
  intro p e s m args below meth c s₁ B hml hv
  obtain ⟨rfl, hsz, ⟨hP, hK, hN⟩, hD0⟩ := hv
  have hts := atoms_spec (ws := ws) B.pre
  have hown : s.vm.findClass y.cls = some m.cls := findClass_of_methodNamed B.named
  have hlocks := B.notSynchronized
  have hr := B.returns
  subst hsz
  have hD := fw_D_self (sz := s.heap.size) hD0
  have hC : fw_C p m c cc maxL s av.toArray ws y.cls D aC n K := ⟨⟨B.exec, B.bytes, hml, hown, hts⟩, hK, hn⟩
  have hl := lv_entry av (n := maxL) hlen
  rw [lg_entry_eq]
  refine body p e s m av.toArray below meth c (fw_A g n s.heap.size) _ hC hN (fun q h => Or.inr h) ?_ _ s.heap [] hl ⟨hP, hD⟩ va_S.rf
  intro I' lv v hnv pc hdg hR ls H locs hl ⟨hP, hD⟩ hS
  exact W.zret B.exec B.bytes hr hnv (fun t ht hW => ⟨⟨v, I', rfl, Option.some.inj hR, ⟨by rw [ht]; exact hP, va_K.moved hW.alike hK, fw_N.warm hW hN⟩⟩, hS.F ht⟩) hS.2.2 hdg

theorem fw_ofGiF {rt : FieldType} {Rr : Int32 × (Nat → Nat → Int32)} (hy : plainFor y = true) (hn : ∀ k, (K k).1 < 99 → k < n) (hlen : (lg_sl av).length ≤ maxL) (hw : ws = Cond.code y cc maxL (some rt) :: ws')
    (body : ∀ (p : Program) (e : Env) (s : State) (m : MethodId) (args : Array Value) (below : List Frame) (meth : Method) (c : Code) (A : Nat → Prop) (Q : State → Prop), fw_C p m c cc maxL s args ws y.cls D aC n K → fw_N s → (∀ q, s.heap.size ≤ q → A q) → (∀ (I' : Nat → Nat → Int32) (lv : List (Nat × Value)) (v : Int32) (hnv : narrow rt (.int v) = .int v) (pc : Nat), decode cc pc = .ok (.ireturn, 1) → some (v, I') = some Rr → fw_G p l e rm s m args below meth c 0 0 Q maxL D aC A g n K I' (pc) lv ([.int v])) → fw_G p l e rm s m args below meth c 0 0 Q maxL D aC A g n K I (0) (lv_args 0 av) ([])) : fw_Mi l y ws rm D aC g n K I av Rr := by
  intro sz
  refine va_MetF (cc := cc) (maxL := maxL) (ret := (some rt)) hy hw ?_
  intro p e s m args below meth c s₁ B hml hv
  obtain ⟨rfl, hsz, ⟨hP, hK, hN⟩, hD0⟩ := hv
  have hts := atoms_spec (ws := ws) B.pre
  have hown : s.vm.findClass y.cls = some m.cls := findClass_of_methodNamed B.named
  have hlocks := B.notSynchronized
  have hr := B.returns
  subst hsz
  have hD := fw_D_self (sz := s.heap.size) hD0
  have hC : fw_C p m c cc maxL s av.toArray ws y.cls D aC n K := ⟨⟨B.exec, B.bytes, hml, hown, hts⟩, hK, hn⟩
  have hl := lv_entry av (n := maxL) hlen
  rw [lg_entry_eq]
  refine body p e s m av.toArray below meth c (fw_A g n s.heap.size) _ hC hN (fun q h => Or.inr h) ?_ _ s.heap [] hl ⟨hP, hD⟩ va_S.rf
  intro I' lv v hnv pc hdg hR ls H locs hl ⟨hP, hD⟩ hS
  exact W.zret B.exec B.bytes hr hnv (fun t ht hW => ⟨⟨v, I', rfl, Option.some.inj hR, ⟨by rw [ht]; exact hP, va_K.moved hW.alike hK, fw_N.warm hW hN⟩⟩, hS.F ht⟩) hS.2.2 hdg

theorem fw_ofGv {Rr : Nat → Nat → Int32} (hy : plainName y.cls = true) (hn : ∀ k, (K k).1 < 99 → k < n) (hlen : (lg_sl av).length ≤ maxL) (hw : ws = Cond.code y cc maxL none :: ws')
    (body : ∀ (p : Program) (e : Env) (s : State) (m : MethodId) (args : Array Value) (below : List Frame) (meth : Method) (c : Code) (A : Nat → Prop) (Q : State → Prop), fw_C p m c cc maxL s args ws y.cls D aC n K → fw_N s → (∀ q, s.heap.size ≤ q → A q) → (∀ (I' : Nat → Nat → Int32) (lv : List (Nat × Value)) (pc : Nat), decode cc pc = .ok (.return_, 1) → some I' = some Rr → fw_G p l e rm s m args below meth c 0 0 Q maxL D aC A g n K I' (pc) lv ([])) → fw_G p l e rm s m args below meth c 0 0 Q maxL D aC A g n K I (0) (lv_args 0 av) ([])) : fw_Mv l y ws rm D aC g n K I av Rr := by
  intro sz
  refine Met.ofW (cc := cc) (maxL := maxL) (ret := none) hy hw ?_
  intro p e s m args below meth c s₁ B hml hv
  obtain ⟨rfl, hsz, ⟨hP, hK, hN⟩, hD0⟩ := hv
  have hts := atoms_spec (ws := ws) B.pre
  have hown : s.vm.findClass y.cls = some m.cls := findClass_of_methodNamed B.named
  have hlocks := B.notSynchronized
  have hr := B.returns
  subst hsz
  have hD := fw_D_self (sz := s.heap.size) hD0
  have hC : fw_C p m c cc maxL s av.toArray ws y.cls D aC n K := ⟨⟨B.exec, B.bytes, hml, hown, hts⟩, hK, hn⟩
  have hl := lv_entry av (n := maxL) hlen
  rw [lg_entry_eq]
  refine body p e s m av.toArray below meth c (fw_A g n s.heap.size) _ hC hN (fun q h => Or.inr h) ?_ _ s.heap [] hl ⟨hP, hD⟩ va_S.rf
  intro I' lv pc hdg hR ls H locs hl ⟨hP, hD⟩ hS
  exact W.vret B.exec B.bytes hr (fun t ht hW => ⟨⟨I', rfl, Option.some.inj hR, ⟨by rw [ht]; exact hP, va_K.moved hW.alike hK, fw_N.warm hW hN⟩⟩, hS.F ht⟩) hS.2.2 hdg

theorem fw_ofGr {rt : String} {Rr : Int32 × (Nat → Nat → Int32)} (hy : plainName y.cls = true) (hn : ∀ k, (K k).1 < 99 → k < n) (hlen : (lg_sl av).length ≤ maxL) (hw : ws = Cond.code y cc maxL (some (.object rt)) :: ws')
    (body : ∀ (p : Program) (e : Env) (s : State) (m : MethodId) (args : Array Value) (below : List Frame) (meth : Method) (c : Code) (A : Nat → Prop) (Q : State → Prop), fw_C p m c cc maxL s args ws y.cls D aC n K → fw_N s → (∀ q, s.heap.size ≤ q → A q) → (∀ (I' : Nat → Nat → Int32) (lv : List (Nat × Value)) (x : Int32) (pc : Nat), decode cc pc = .ok (.areturn, 1) → some (x, I') = some Rr → fw_G p l e rm s m args below meth c 0 0 Q maxL D aC A g n K I' (pc) lv ([.ref (g x.toNatClampNeg)])) → fw_G p l e rm s m args below meth c 0 0 Q maxL D aC A g n K I (0) (lv_args 0 av) ([])) : fw_Mr l y ws rm D aC g n K I av Rr := by
  intro sz
  refine Met.ofW (cc := cc) (maxL := maxL) (ret := (some (.object rt))) hy hw ?_
  intro p e s m args below meth c s₁ B hml hv
  obtain ⟨rfl, hsz, ⟨hP, hK, hN⟩, hD0⟩ := hv
  have hts := atoms_spec (ws := ws) B.pre
  have hown : s.vm.findClass y.cls = some m.cls := findClass_of_methodNamed B.named
  have hlocks := B.notSynchronized
  have hr := B.returns
  subst hsz
  have hD := fw_D_self (sz := s.heap.size) hD0
  have hC : fw_C p m c cc maxL s av.toArray ws y.cls D aC n K := ⟨⟨B.exec, B.bytes, hml, hown, hts⟩, hK, hn⟩
  have hl := lv_entry av (n := maxL) hlen
  rw [lg_entry_eq]
  refine body p e s m av.toArray below meth c (fw_A g n s.heap.size) _ hC hN (fun q h => Or.inr h) ?_ _ s.heap [] hl ⟨hP, hD⟩ va_S.rf
  intro I' lv x pc hdg hR ls H locs hl ⟨hP, hD⟩ hS
  exact W.aret B.exec B.bytes hr (Or.inl ⟨_, rfl⟩) (Or.inr ⟨_, rfl⟩) (fun t ht hW => ⟨⟨I', g x.toNatClampNeg, rfl, by rw [← Option.some.inj hR], by rw [← Option.some.inj hR], ⟨by rw [ht]; exact hP, va_K.moved hW.alike hK, fw_N.warm hW hN⟩⟩, hS.F ht⟩) hS.2.2 hdg

end FWH
section FWX
variable {p : Program} {l : Launch} {e : Env} {R : Room} {s : State} {m : MethodId} {args : Array Value} {below : List Frame} {meth : Method} {c : Code} {cells slots : Nat} {Q : State → Prop}
variable {cc bytes : ByteArray} {nL maxL : Nat} {Ts ws ws' : List Cond} {own : String} {D : va_G} {aC : Nat → ClassId} {A : Nat → Prop} {g : Nat → Nat} {n : Nat} {K : Nat → Nat × Nat} {I I2 : Nat → Nat → Int32} {pc : Nat} {lv : List (Nat × Value)} {st st0 As av : List Value} {y : MethodName} {rm : Room} {ret : Option FieldType} {index na : Nat}

theorem fx_callVi (C : fw_C p m c cc nL s args Ts own D aC n K) {pc' : Nat} (hN : fw_N s) (hA : ∀ q, s.heap.size ≤ q → A q) {k ci N : Nat} {T : u_T} {Cn : String} (hk : (K k).1 = ci) (hc : ci < 20) (hcl : fw_cl[ci]? = some (Cn, T, N)) {r : Int32} (hM : fw_Mi l y ws rm D aC g n K I (.ref (g k) :: As) (r, I2)) (cw : CallW R s args own Cn index y bytes maxL ret ws rm 0 0 na) (hcs : cells ≤ R.cells ∧ slots ≤ R.slots) (hna : As.length = na) (hst : st0 = As.reverse ++ .ref (g k) :: st) (hrm : (st.map fun v => v.category).sum ≤ 8) (hdg : decode cc pc = .ok (.invokevirtual index, 3)) (hp : pc + 3 = pc')
    (kk : fw_G p l e R s m args below meth c cells slots Q nL D aC A g n K I2 (pc') lv (.int r :: st)) : fw_G p l e R s m args below meth c cells slots Q nL D aC A g n K I (pc) lv (st0) := by
  subst hp
  intro ls H locs hl ⟨hP, hD⟩ hS
  have hF := fw_free hD hS hA
  refine va_calli (va_runV (As := As) (rest := st) C.1 (hM H.size) cw ⟨fw_pre_blind, va_recv C.2.1 hP hcl (fw_obj C.2.2 hk hc), fun U hU hW => ⟨rfl, by rw [hU], ⟨by rw [hU]; exact hP, va_K.moved hW.alike C.2.1, fw_N.warm hW hN⟩, hD.weaken (fun _ _ _ _ => trivial)⟩⟩ rfl hna hl.1 hst (lv_room hrm) hdg hcs) hS (fun q _ h => hF q h) hF (fun r' u t H1 locs1 ht hvm hw hB hz1 hk1 hS1 => ?_)
  cases hw
  exact kk ls H1 locs1 hl ⟨by rw [← ht]; exact hB.1, fw_D_any hD⟩ hS1
theorem fx_callVv (C : fw_C p m c cc nL s args Ts own D aC n K) {pc' : Nat} (hN : fw_N s) (hA : ∀ q, s.heap.size ≤ q → A q) {k ci N : Nat} {T : u_T} {Cn : String} (hk : (K k).1 = ci) (hc : ci < 20) (hcl : fw_cl[ci]? = some (Cn, T, N)) (hM : fw_Mv l y ws rm D aC g n K I (.ref (g k) :: As) I2) (cw : CallW R s args own Cn index y bytes maxL ret ws rm 0 0 na) (hcs : cells ≤ R.cells ∧ slots ≤ R.slots) (hna : As.length = na) (hst : st0 = As.reverse ++ .ref (g k) :: st) (hrm : (st.map fun v => v.category).sum ≤ 8) (hdg : decode cc pc = .ok (.invokevirtual index, 3)) (hp : pc + 3 = pc')
    (kk : fw_G p l e R s m args below meth c cells slots Q nL D aC A g n K I2 (pc') lv (st)) : fw_G p l e R s m args below meth c cells slots Q nL D aC A g n K I (pc) lv (st0) := by
  subst hp
  intro ls H locs hl ⟨hP, hD⟩ hS
  have hF := fw_free hD hS hA
  refine va_callv (va_runV (As := As) (rest := st) C.1 (hM H.size) cw ⟨fw_pre_blind, va_recv C.2.1 hP hcl (fw_obj C.2.2 hk hc), fun U hU hW => ⟨rfl, by rw [hU], ⟨by rw [hU]; exact hP, va_K.moved hW.alike C.2.1, fw_N.warm hW hN⟩, hD.weaken (fun _ _ _ _ => trivial)⟩⟩ rfl hna hl.1 hst (lv_room hrm) hdg hcs) hS (fun q _ h => hF q h) hF (fun u t H1 locs1 ht hvm hw hB hz1 hk1 hS1 => ?_)
  cases hw
  exact kk ls H1 locs1 hl ⟨by rw [← ht]; exact hB.1, fw_D_any hD⟩ hS1
theorem fx_callVr (C : fw_C p m c cc nL s args Ts own D aC n K) {pc' : Nat} (hN : fw_N s) (hA : ∀ q, s.heap.size ≤ q → A q) {k ci N : Nat} {T : u_T} {Cn : String} (hk : (K k).1 = ci) (hc : ci < 20) (hcl : fw_cl[ci]? = some (Cn, T, N)) {r : Int32} {a : Nat} (ha : r.toNatClampNeg = a) (hM : fw_Mr l y ws rm D aC g n K I (.ref (g k) :: As) (r, I2)) (cw : CallW R s args own Cn index y bytes maxL ret ws rm 0 0 na) (hcs : cells ≤ R.cells ∧ slots ≤ R.slots) (hna : As.length = na) (hst : st0 = As.reverse ++ .ref (g k) :: st) (hrm : (st.map fun v => v.category).sum ≤ 8) (hdg : decode cc pc = .ok (.invokevirtual index, 3)) (hp : pc + 3 = pc')
    (kk : fw_G p l e R s m args below meth c cells slots Q nL D aC A g n K I2 (pc') lv (.ref (g a) :: st)) : fw_G p l e R s m args below meth c cells slots Q nL D aC A g n K I (pc) lv (st0) := by
  subst hp
  intro ls H locs hl ⟨hP, hD⟩ hS
  have hF := fw_free hD hS hA
  refine va_callr (va_runV (As := As) (rest := st) C.1 (hM H.size) cw ⟨fw_pre_blind, va_recv C.2.1 hP hcl (fw_obj C.2.2 hk hc), fun U hU hW => ⟨rfl, by rw [hU], ⟨by rw [hU]; exact hP, va_K.moved hW.alike C.2.1, fw_N.warm hW hN⟩, hD.weaken (fun _ _ _ _ => trivial)⟩⟩ rfl hna hl.1 hst (lv_room hrm) hdg hcs) hS (fun q _ h => hF q h) hF (fun u ra t H1 locs1 ht hvm hw hB hz1 hk1 hS1 => ?_)
  obtain ⟨hra, hB⟩ := hB
  cases hw
  rw [hra, show (r, I2).1.toNatClampNeg = a from ha]
  exact kk ls H1 locs1 hl ⟨by rw [← ht]; exact hB.1, fw_D_any hD⟩ hS1
theorem fx_callVNi (C : fw_C p m c cc nL s args Ts own D aC n K) {pc' : Nat} (hN : fw_N s) (hA : ∀ q, s.heap.size ≤ q → A q) {k ci N : Nat} {T : u_T} {Cn : String} (hk : (K k).1 = ci) (hc : ci < 20) (hcl : fw_cl[ci]? = some (Cn, T, N)) {r : Int32} (hM : fw_Mi l y ws rm D aC g n K I (.ref (g k) :: As) (r, I2)) {host : String} (cw : va_CN R s args own index y host bytes maxL ret ws rm 0 0 na ∧ (Cond.instanceMethod y).before args s = true ∧ (Cond.selects Cn y y).before args s = true) (hcs : cells ≤ R.cells ∧ slots ≤ R.slots) (hna : As.length = na) (hst : st0 = As.reverse ++ .ref (g k) :: st) (hrm : (st.map fun v => v.category).sum ≤ 8) (hdg : decode cc pc = .ok (.invokevirtual index, 3)) (hp : pc + 3 = pc')
    (kk : fw_G p l e R s m args below meth c cells slots Q nL D aC A g n K I2 (pc') lv (.int r :: st)) : fw_G p l e R s m args below meth c cells slots Q nL D aC A g n K I (pc) lv (st0) := by
  subst hp
  intro ls H locs hl ⟨hP, hD⟩ hS
  have hF := fw_free hD hS hA
  refine va_calli (va_runVN (As := As) (rest := st) C.1 (hM H.size) cw ⟨fw_pre_blind, va_recv C.2.1 hP hcl (fw_obj C.2.2 hk hc), fun U hU hW => ⟨rfl, by rw [hU], ⟨by rw [hU]; exact hP, va_K.moved hW.alike C.2.1, fw_N.warm hW hN⟩, hD.weaken (fun _ _ _ _ => trivial)⟩⟩ rfl hna hl.1 hst (lv_room hrm) hdg hcs) hS (fun q _ h => hF q h) hF (fun r' u t H1 locs1 ht hvm hw hB hz1 hk1 hS1 => ?_)
  cases hw
  exact kk ls H1 locs1 hl ⟨by rw [← ht]; exact hB.1, fw_D_any hD⟩ hS1
theorem fx_callVNv (C : fw_C p m c cc nL s args Ts own D aC n K) {pc' : Nat} (hN : fw_N s) (hA : ∀ q, s.heap.size ≤ q → A q) {k ci N : Nat} {T : u_T} {Cn : String} (hk : (K k).1 = ci) (hc : ci < 20) (hcl : fw_cl[ci]? = some (Cn, T, N)) (hM : fw_Mv l y ws rm D aC g n K I (.ref (g k) :: As) I2) {host : String} (cw : va_CN R s args own index y host bytes maxL ret ws rm 0 0 na ∧ (Cond.instanceMethod y).before args s = true ∧ (Cond.selects Cn y y).before args s = true) (hcs : cells ≤ R.cells ∧ slots ≤ R.slots) (hna : As.length = na) (hst : st0 = As.reverse ++ .ref (g k) :: st) (hrm : (st.map fun v => v.category).sum ≤ 8) (hdg : decode cc pc = .ok (.invokevirtual index, 3)) (hp : pc + 3 = pc')
    (kk : fw_G p l e R s m args below meth c cells slots Q nL D aC A g n K I2 (pc') lv (st)) : fw_G p l e R s m args below meth c cells slots Q nL D aC A g n K I (pc) lv (st0) := by
  subst hp
  intro ls H locs hl ⟨hP, hD⟩ hS
  have hF := fw_free hD hS hA
  refine va_callv (va_runVN (As := As) (rest := st) C.1 (hM H.size) cw ⟨fw_pre_blind, va_recv C.2.1 hP hcl (fw_obj C.2.2 hk hc), fun U hU hW => ⟨rfl, by rw [hU], ⟨by rw [hU]; exact hP, va_K.moved hW.alike C.2.1, fw_N.warm hW hN⟩, hD.weaken (fun _ _ _ _ => trivial)⟩⟩ rfl hna hl.1 hst (lv_room hrm) hdg hcs) hS (fun q _ h => hF q h) hF (fun u t H1 locs1 ht hvm hw hB hz1 hk1 hS1 => ?_)
  cases hw
  exact kk ls H1 locs1 hl ⟨by rw [← ht]; exact hB.1, fw_D_any hD⟩ hS1
theorem fx_callVNr (C : fw_C p m c cc nL s args Ts own D aC n K) {pc' : Nat} (hN : fw_N s) (hA : ∀ q, s.heap.size ≤ q → A q) {k ci N : Nat} {T : u_T} {Cn : String} (hk : (K k).1 = ci) (hc : ci < 20) (hcl : fw_cl[ci]? = some (Cn, T, N)) {r : Int32} {a : Nat} (ha : r.toNatClampNeg = a) (hM : fw_Mr l y ws rm D aC g n K I (.ref (g k) :: As) (r, I2)) {host : String} (cw : va_CN R s args own index y host bytes maxL ret ws rm 0 0 na ∧ (Cond.instanceMethod y).before args s = true ∧ (Cond.selects Cn y y).before args s = true) (hcs : cells ≤ R.cells ∧ slots ≤ R.slots) (hna : As.length = na) (hst : st0 = As.reverse ++ .ref (g k) :: st) (hrm : (st.map fun v => v.category).sum ≤ 8) (hdg : decode cc pc = .ok (.invokevirtual index, 3)) (hp : pc + 3 = pc')
    (kk : fw_G p l e R s m args below meth c cells slots Q nL D aC A g n K I2 (pc') lv (.ref (g a) :: st)) : fw_G p l e R s m args below meth c cells slots Q nL D aC A g n K I (pc) lv (st0) := by
  subst hp
  intro ls H locs hl ⟨hP, hD⟩ hS
  have hF := fw_free hD hS hA
  refine va_callr (va_runVN (As := As) (rest := st) C.1 (hM H.size) cw ⟨fw_pre_blind, va_recv C.2.1 hP hcl (fw_obj C.2.2 hk hc), fun U hU hW => ⟨rfl, by rw [hU], ⟨by rw [hU]; exact hP, va_K.moved hW.alike C.2.1, fw_N.warm hW hN⟩, hD.weaken (fun _ _ _ _ => trivial)⟩⟩ rfl hna hl.1 hst (lv_room hrm) hdg hcs) hS (fun q _ h => hF q h) hF (fun u ra t H1 locs1 ht hvm hw hB hz1 hk1 hS1 => ?_)
  obtain ⟨hra, hB⟩ := hB
  cases hw
  rw [hra, show (r, I2).1.toNatClampNeg = a from ha]
  exact kk ls H1 locs1 hl ⟨by rw [← ht]; exact hB.1, fw_D_any hD⟩ hS1
theorem fx_callSi (C : fw_C p m c cc nL s args Ts own D aC n K) {pc' : Nat} (hN : fw_N s) (hA : ∀ q, s.heap.size ≤ q → A q) {r : Int32} (hM : fw_Mi l y ws rm D aC g n K I As (r, I2)) (cw : CallB R s args own index y bytes maxL ret ws rm 0 0 na ∧ (Cond.static y).before args s = true) (hcs : cells ≤ R.cells ∧ slots ≤ R.slots) (hna : As.length = na) (hst : st0 = As.reverse ++ st) (hrm : (st.map fun v => v.category).sum ≤ 8) (hdg : decode cc pc = .ok (.invokestatic index, 3)) (hp : pc + 3 = pc')
    (kk : fw_G p l e R s m args below meth c cells slots Q nL D aC A g n K I2 (pc') lv (.int r :: st)) : fw_G p l e R s m args below meth c cells slots Q nL D aC A g n K I (pc) lv (st0) := by
  subst hp
  intro ls H locs hl ⟨hP, hD⟩ hS
  have hF := fw_free hD hS hA
  refine va_calli (va_runS (As := As) (rest := st) C.1 (hM H.size) cw ⟨fw_pre_blind, fun U hU hW => ⟨rfl, by rw [hU], ⟨by rw [hU]; exact hP, va_K.moved hW.alike C.2.1, fw_N.warm hW hN⟩, hD.weaken (fun _ _ _ _ => trivial)⟩⟩ rfl hna hl.1 hst (lv_room hrm) hdg hcs) hS (fun q _ h => hF q h) hF (fun r' u t H1 locs1 ht hvm hw hB hz1 hk1 hS1 => ?_)
  cases hw
  exact kk ls H1 locs1 hl ⟨by rw [← ht]; exact hB.1, fw_D_any hD⟩ hS1
theorem fx_callSv (C : fw_C p m c cc nL s args Ts own D aC n K) {pc' : Nat} (hN : fw_N s) (hA : ∀ q, s.heap.size ≤ q → A q) (hM : fw_Mv l y ws rm D aC g n K I As I2) (cw : CallB R s args own index y bytes maxL ret ws rm 0 0 na ∧ (Cond.static y).before args s = true) (hcs : cells ≤ R.cells ∧ slots ≤ R.slots) (hna : As.length = na) (hst : st0 = As.reverse ++ st) (hrm : (st.map fun v => v.category).sum ≤ 8) (hdg : decode cc pc = .ok (.invokestatic index, 3)) (hp : pc + 3 = pc')
    (kk : fw_G p l e R s m args below meth c cells slots Q nL D aC A g n K I2 (pc') lv (st)) : fw_G p l e R s m args below meth c cells slots Q nL D aC A g n K I (pc) lv (st0) := by
  subst hp
  intro ls H locs hl ⟨hP, hD⟩ hS
  have hF := fw_free hD hS hA
  refine va_callv (va_runS (As := As) (rest := st) C.1 (hM H.size) cw ⟨fw_pre_blind, fun U hU hW => ⟨rfl, by rw [hU], ⟨by rw [hU]; exact hP, va_K.moved hW.alike C.2.1, fw_N.warm hW hN⟩, hD.weaken (fun _ _ _ _ => trivial)⟩⟩ rfl hna hl.1 hst (lv_room hrm) hdg hcs) hS (fun q _ h => hF q h) hF (fun u t H1 locs1 ht hvm hw hB hz1 hk1 hS1 => ?_)
  cases hw
  exact kk ls H1 locs1 hl ⟨by rw [← ht]; exact hB.1, fw_D_any hD⟩ hS1
theorem fx_callSr (C : fw_C p m c cc nL s args Ts own D aC n K) {pc' : Nat} (hN : fw_N s) (hA : ∀ q, s.heap.size ≤ q → A q) {r : Int32} {a : Nat} (ha : r.toNatClampNeg = a) (hM : fw_Mr l y ws rm D aC g n K I As (r, I2)) (cw : CallB R s args own index y bytes maxL ret ws rm 0 0 na ∧ (Cond.static y).before args s = true) (hcs : cells ≤ R.cells ∧ slots ≤ R.slots) (hna : As.length = na) (hst : st0 = As.reverse ++ st) (hrm : (st.map fun v => v.category).sum ≤ 8) (hdg : decode cc pc = .ok (.invokestatic index, 3)) (hp : pc + 3 = pc')
    (kk : fw_G p l e R s m args below meth c cells slots Q nL D aC A g n K I2 (pc') lv (.ref (g a) :: st)) : fw_G p l e R s m args below meth c cells slots Q nL D aC A g n K I (pc) lv (st0) := by
  subst hp
  intro ls H locs hl ⟨hP, hD⟩ hS
  have hF := fw_free hD hS hA
  refine va_callr (va_runS (As := As) (rest := st) C.1 (hM H.size) cw ⟨fw_pre_blind, fun U hU hW => ⟨rfl, by rw [hU], ⟨by rw [hU]; exact hP, va_K.moved hW.alike C.2.1, fw_N.warm hW hN⟩, hD.weaken (fun _ _ _ _ => trivial)⟩⟩ rfl hna hl.1 hst (lv_room hrm) hdg hcs) hS (fun q _ h => hF q h) hF (fun u ra t H1 locs1 ht hvm hw hB hz1 hk1 hS1 => ?_)
  obtain ⟨hra, hB⟩ := hB
  cases hw
  rw [hra, show (r, I2).1.toNatClampNeg = a from ha]
  exact kk ls H1 locs1 hl ⟨by rw [← ht]; exact hB.1, fw_D_any hD⟩ hS1
end FWX
end
