section
-- ===== PART A: goes FIRST, ahead of the names: the tables' words, and 'selects' of the private methods out of them =====
/-- a private method of a class that the tables say can be made, by its rows of tables_1 -/
def lw_okq (q : MethodName × Nat) : Prop := (q.1.cls ≠ "java/lang/invoke/MethodHandle" ∧ q.1.cls ≠ "java/lang/invoke/VarHandle") ∧ Cond.instantiable q.1.cls q.2 ∈ tables_1 ∧ Cond.privateMethod q.1 ∈ tables_1 ∧ Cond.instanceMethod q.1 ∈ tables_1
theorem lw_p0 : lw_okq (⟨"StreamEnd", "makeReset", "()V"⟩, 12) := ⟨⟨by decide +kernel, by decide +kernel⟩, List.mem_of_getElem? (i := 17) (by decide +kernel), List.mem_of_getElem? (i := 293) (by decide +kernel), List.mem_of_getElem? (i := 294) (by decide +kernel)⟩
theorem lw_p1 : lw_okq (⟨"StreamEnd$Segment", "headIs", "(IIIII)V"⟩, 7) := ⟨⟨by decide +kernel, by decide +kernel⟩, List.mem_of_getElem? (i := 211) (by decide +kernel), List.mem_of_getElem? (i := 297) (by decide +kernel), List.mem_of_getElem? (i := 298) (by decide +kernel)⟩
theorem lw_p2 : lw_okq (⟨"StreamEnd$Segment", "has", "(I)Z"⟩, 7) := ⟨⟨by decide +kernel, by decide +kernel⟩, List.mem_of_getElem? (i := 211) (by decide +kernel), List.mem_of_getElem? (i := 301) (by decide +kernel), List.mem_of_getElem? (i := 302) (by decide +kernel)⟩
theorem lw_p3 : lw_okq (⟨"StreamEnd", "makeOpen", "()V"⟩, 12) := ⟨⟨by decide +kernel, by decide +kernel⟩, List.mem_of_getElem? (i := 17) (by decide +kernel), List.mem_of_getElem? (i := 305) (by decide +kernel), List.mem_of_getElem? (i := 306) (by decide +kernel)⟩
theorem lw_p4 : lw_okq (⟨"StreamEnd", "make", "(IIII)V"⟩, 12) := ⟨⟨by decide +kernel, by decide +kernel⟩, List.mem_of_getElem? (i := 17) (by decide +kernel), List.mem_of_getElem? (i := 309) (by decide +kernel), List.mem_of_getElem? (i := 310) (by decide +kernel)⟩
theorem lw_p5 : lw_okq (⟨"StreamEnd$Incoming", "room", "()I"⟩, 8) := ⟨⟨by decide +kernel, by decide +kernel⟩, List.mem_of_getElem? (i := 81) (by decide +kernel), List.mem_of_getElem? (i := 313) (by decide +kernel), List.mem_of_getElem? (i := 314) (by decide +kernel)⟩
theorem lw_p6 : lw_okq (⟨"StreamEnd$Outgoing", "copyTo", "(LStreamEnd$Segment;II)V"⟩, 13) := ⟨⟨by decide +kernel, by decide +kernel⟩, List.mem_of_getElem? (i := 25) (by decide +kernel), List.mem_of_getElem? (i := 317) (by decide +kernel), List.mem_of_getElem? (i := 318) (by decide +kernel)⟩
theorem lw_p7 : lw_okq (⟨"StreamEnd$Segment", "append", "(B)V"⟩, 7) := ⟨⟨by decide +kernel, by decide +kernel⟩, List.mem_of_getElem? (i := 211) (by decide +kernel), List.mem_of_getElem? (i := 321) (by decide +kernel), List.mem_of_getElem? (i := 322) (by decide +kernel)⟩
theorem lw_p8 : lw_okq (⟨"StreamEnd$Watch", "measure", "(I)V"⟩, 11) := ⟨⟨by decide +kernel, by decide +kernel⟩, List.mem_of_getElem? (i := 120) (by decide +kernel), List.mem_of_getElem? (i := 325) (by decide +kernel), List.mem_of_getElem? (i := 326) (by decide +kernel)⟩
theorem lw_p9 : lw_okq (⟨"StreamEnd$Watch", "setAlarmIfOff", "()V"⟩, 11) := ⟨⟨by decide +kernel, by decide +kernel⟩, List.mem_of_getElem? (i := 120) (by decide +kernel), List.mem_of_getElem? (i := 329) (by decide +kernel), List.mem_of_getElem? (i := 330) (by decide +kernel)⟩
theorem lw_p10 : lw_okq (⟨"StreamEnd$Watch", "setAlarm", "()V"⟩, 11) := ⟨⟨by decide +kernel, by decide +kernel⟩, List.mem_of_getElem? (i := 120) (by decide +kernel), List.mem_of_getElem? (i := 333) (by decide +kernel), List.mem_of_getElem? (i := 334) (by decide +kernel)⟩
theorem lw_p11 : lw_okq (⟨"StreamEnd", "makeAgain", "()V"⟩, 12) := ⟨⟨by decide +kernel, by decide +kernel⟩, List.mem_of_getElem? (i := 17) (by decide +kernel), List.mem_of_getElem? (i := 337) (by decide +kernel), List.mem_of_getElem? (i := 338) (by decide +kernel)⟩
theorem lw_p12 : lw_okq (⟨"StreamEnd", "maySendNew", "()Z"⟩, 12) := ⟨⟨by decide +kernel, by decide +kernel⟩, List.mem_of_getElem? (i := 17) (by decide +kernel), List.mem_of_getElem? (i := 344) (by decide +kernel), List.mem_of_getElem? (i := 345) (by decide +kernel)⟩
theorem lw_p13 : lw_okq (⟨"StreamEnd$Outgoing", "maySend", "()Z"⟩, 13) := ⟨⟨by decide +kernel, by decide +kernel⟩, List.mem_of_getElem? (i := 25) (by decide +kernel), List.mem_of_getElem? (i := 348) (by decide +kernel), List.mem_of_getElem? (i := 349) (by decide +kernel)⟩
theorem lw_p14 : lw_okq (⟨"StreamEnd$Outgoing", "newBytes", "()I"⟩, 13) := ⟨⟨by decide +kernel, by decide +kernel⟩, List.mem_of_getElem? (i := 25) (by decide +kernel), List.mem_of_getElem? (i := 352) (by decide +kernel), List.mem_of_getElem? (i := 353) (by decide +kernel)⟩
theorem lw_p15 : lw_okq (⟨"StreamEnd$Outgoing", "unsent", "()I"⟩, 13) := ⟨⟨by decide +kernel, by decide +kernel⟩, List.mem_of_getElem? (i := 25) (by decide +kernel), List.mem_of_getElem? (i := 356) (by decide +kernel), List.mem_of_getElem? (i := 357) (by decide +kernel)⟩
def lw_privs_1 : List (MethodName × Nat) := [(⟨"StreamEnd", "makeReset", "()V"⟩, 12), (⟨"StreamEnd$Segment", "headIs", "(IIIII)V"⟩, 7), (⟨"StreamEnd$Segment", "has", "(I)Z"⟩, 7), (⟨"StreamEnd", "makeOpen", "()V"⟩, 12), (⟨"StreamEnd", "make", "(IIII)V"⟩, 12), (⟨"StreamEnd$Incoming", "room", "()I"⟩, 8), (⟨"StreamEnd$Outgoing", "copyTo", "(LStreamEnd$Segment;II)V"⟩, 13), (⟨"StreamEnd$Segment", "append", "(B)V"⟩, 7), (⟨"StreamEnd$Watch", "measure", "(I)V"⟩, 11), (⟨"StreamEnd$Watch", "setAlarmIfOff", "()V"⟩, 11), (⟨"StreamEnd$Watch", "setAlarm", "()V"⟩, 11), (⟨"StreamEnd", "makeAgain", "()V"⟩, 12), (⟨"StreamEnd", "maySendNew", "()Z"⟩, 12), (⟨"StreamEnd$Outgoing", "maySend", "()Z"⟩, 13), (⟨"StreamEnd$Outgoing", "newBytes", "()I"⟩, 13), (⟨"StreamEnd$Outgoing", "unsent", "()I"⟩, 13)]
theorem lw_r1 : ∀ q ∈ lw_privs_1, lw_okq q := List.forall_mem_cons.mpr ⟨lw_p0, List.forall_mem_cons.mpr ⟨lw_p1, List.forall_mem_cons.mpr ⟨lw_p2, List.forall_mem_cons.mpr ⟨lw_p3, List.forall_mem_cons.mpr ⟨lw_p4, List.forall_mem_cons.mpr ⟨lw_p5, List.forall_mem_cons.mpr ⟨lw_p6, List.forall_mem_cons.mpr ⟨lw_p7, List.forall_mem_cons.mpr ⟨lw_p8, List.forall_mem_cons.mpr ⟨lw_p9, List.forall_mem_cons.mpr ⟨lw_p10, List.forall_mem_cons.mpr ⟨lw_p11, List.forall_mem_cons.mpr ⟨lw_p12, List.forall_mem_cons.mpr ⟨lw_p13, List.forall_mem_cons.mpr ⟨lw_p14, List.forall_mem_cons.mpr ⟨lw_p15, fun _ h => absurd h List.not_mem_nil⟩⟩⟩⟩⟩⟩⟩⟩⟩⟩⟩⟩⟩⟩⟩⟩
theorem lw_p16 : lw_okq (⟨"StreamEnd$Outgoing", "allowed", "()I"⟩, 13) := ⟨⟨by decide +kernel, by decide +kernel⟩, List.mem_of_getElem? (i := 25) (by decide +kernel), List.mem_of_getElem? (i := 360) (by decide +kernel), List.mem_of_getElem? (i := 361) (by decide +kernel)⟩
theorem lw_p17 : lw_okq (⟨"StreamEnd$Outgoing", "newHasLast", "()Z"⟩, 13) := ⟨⟨by decide +kernel, by decide +kernel⟩, List.mem_of_getElem? (i := 25) (by decide +kernel), List.mem_of_getElem? (i := 368) (by decide +kernel), List.mem_of_getElem? (i := 369) (by decide +kernel)⟩
theorem lw_p18 : lw_okq (⟨"StreamEnd", "makeNew", "(IZ)V"⟩, 12) := ⟨⟨by decide +kernel, by decide +kernel⟩, List.mem_of_getElem? (i := 17) (by decide +kernel), List.mem_of_getElem? (i := 374) (by decide +kernel), List.mem_of_getElem? (i := 375) (by decide +kernel)⟩
theorem lw_p19 : lw_okq (⟨"StreamEnd$Outgoing", "wasSent", "(IZ)V"⟩, 13) := ⟨⟨by decide +kernel, by decide +kernel⟩, List.mem_of_getElem? (i := 25) (by decide +kernel), List.mem_of_getElem? (i := 378) (by decide +kernel), List.mem_of_getElem? (i := 379) (by decide +kernel)⟩
theorem lw_p20 : lw_okq (⟨"StreamEnd", "makeProbe", "()V"⟩, 12) := ⟨⟨by decide +kernel, by decide +kernel⟩, List.mem_of_getElem? (i := 17) (by decide +kernel), List.mem_of_getElem? (i := 382) (by decide +kernel), List.mem_of_getElem? (i := 383) (by decide +kernel)⟩
theorem lw_p21 : lw_okq (⟨"StreamEnd", "isEnded", "()Z"⟩, 12) := ⟨⟨by decide +kernel, by decide +kernel⟩, List.mem_of_getElem? (i := 17) (by decide +kernel), List.mem_of_getElem? (i := 402) (by decide +kernel), List.mem_of_getElem? (i := 403) (by decide +kernel)⟩
theorem lw_p22 : lw_okq (⟨"java/lang/Throwable", "fillInStackTrace", "(I)Ljava/lang/Throwable;"⟩, 6) := ⟨⟨by decide +kernel, by decide +kernel⟩, List.mem_of_getElem? (i := 444) (by decide +kernel), List.mem_of_getElem? (i := 442) (by decide +kernel), List.mem_of_getElem? (i := 443) (by decide +kernel)⟩
theorem lw_p23 : lw_okq (⟨"StreamEnd", "startStream", "(IZ)V"⟩, 12) := ⟨⟨by decide +kernel, by decide +kernel⟩, List.mem_of_getElem? (i := 17) (by decide +kernel), List.mem_of_getElem? (i := 473) (by decide +kernel), List.mem_of_getElem? (i := 474) (by decide +kernel)⟩
theorem lw_p24 : lw_okq (⟨"StreamEnd$Outgoing", "restart", "(II)V"⟩, 13) := ⟨⟨by decide +kernel, by decide +kernel⟩, List.mem_of_getElem? (i := 25) (by decide +kernel), List.mem_of_getElem? (i := 477) (by decide +kernel), List.mem_of_getElem? (i := 478) (by decide +kernel)⟩
theorem lw_p25 : lw_okq (⟨"StreamEnd$Outgoing", "windowIs", "(III)V"⟩, 13) := ⟨⟨by decide +kernel, by decide +kernel⟩, List.mem_of_getElem? (i := 25) (by decide +kernel), List.mem_of_getElem? (i := 481) (by decide +kernel), List.mem_of_getElem? (i := 482) (by decide +kernel)⟩
theorem lw_p26 : lw_okq (⟨"StreamEnd$Incoming", "restart", "()V"⟩, 8) := ⟨⟨by decide +kernel, by decide +kernel⟩, List.mem_of_getElem? (i := 81) (by decide +kernel), List.mem_of_getElem? (i := 485) (by decide +kernel), List.mem_of_getElem? (i := 486) (by decide +kernel)⟩
theorem lw_p27 : lw_okq (⟨"StreamEnd$Watch", "restart", "()V"⟩, 11) := ⟨⟨by decide +kernel, by decide +kernel⟩, List.mem_of_getElem? (i := 120) (by decide +kernel), List.mem_of_getElem? (i := 489) (by decide +kernel), List.mem_of_getElem? (i := 490) (by decide +kernel)⟩
theorem lw_p28 : lw_okq (⟨"StreamEnd$Due", "restart", "()V"⟩, 9) := ⟨⟨by decide +kernel, by decide +kernel⟩, List.mem_of_getElem? (i := 168) (by decide +kernel), List.mem_of_getElem? (i := 493) (by decide +kernel), List.mem_of_getElem? (i := 494) (by decide +kernel)⟩
theorem lw_p29 : lw_okq (⟨"StreamEnd$Due", "dropStream", "()V"⟩, 9) := ⟨⟨by decide +kernel, by decide +kernel⟩, List.mem_of_getElem? (i := 168) (by decide +kernel), List.mem_of_getElem? (i := 497) (by decide +kernel), List.mem_of_getElem? (i := 498) (by decide +kernel)⟩
theorem lw_p30 : lw_okq (⟨"StreamEnd", "openIsDue", "()V"⟩, 12) := ⟨⟨by decide +kernel, by decide +kernel⟩, List.mem_of_getElem? (i := 17) (by decide +kernel), List.mem_of_getElem? (i := 501) (by decide +kernel), List.mem_of_getElem? (i := 502) (by decide +kernel)⟩
theorem lw_p31 : lw_okq (⟨"StreamEnd$Outgoing", "space", "()I"⟩, 13) := ⟨⟨by decide +kernel, by decide +kernel⟩, List.mem_of_getElem? (i := 25) (by decide +kernel), List.mem_of_getElem? (i := 533) (by decide +kernel), List.mem_of_getElem? (i := 534) (by decide +kernel)⟩
def lw_privs_2 : List (MethodName × Nat) := [(⟨"StreamEnd$Outgoing", "allowed", "()I"⟩, 13), (⟨"StreamEnd$Outgoing", "newHasLast", "()Z"⟩, 13), (⟨"StreamEnd", "makeNew", "(IZ)V"⟩, 12), (⟨"StreamEnd$Outgoing", "wasSent", "(IZ)V"⟩, 13), (⟨"StreamEnd", "makeProbe", "()V"⟩, 12), (⟨"StreamEnd", "isEnded", "()Z"⟩, 12), (⟨"java/lang/Throwable", "fillInStackTrace", "(I)Ljava/lang/Throwable;"⟩, 6), (⟨"StreamEnd", "startStream", "(IZ)V"⟩, 12), (⟨"StreamEnd$Outgoing", "restart", "(II)V"⟩, 13), (⟨"StreamEnd$Outgoing", "windowIs", "(III)V"⟩, 13), (⟨"StreamEnd$Incoming", "restart", "()V"⟩, 8), (⟨"StreamEnd$Watch", "restart", "()V"⟩, 11), (⟨"StreamEnd$Due", "restart", "()V"⟩, 9), (⟨"StreamEnd$Due", "dropStream", "()V"⟩, 9), (⟨"StreamEnd", "openIsDue", "()V"⟩, 12), (⟨"StreamEnd$Outgoing", "space", "()I"⟩, 13)]
theorem lw_r2 : ∀ q ∈ lw_privs_2, lw_okq q := List.forall_mem_cons.mpr ⟨lw_p16, List.forall_mem_cons.mpr ⟨lw_p17, List.forall_mem_cons.mpr ⟨lw_p18, List.forall_mem_cons.mpr ⟨lw_p19, List.forall_mem_cons.mpr ⟨lw_p20, List.forall_mem_cons.mpr ⟨lw_p21, List.forall_mem_cons.mpr ⟨lw_p22, List.forall_mem_cons.mpr ⟨lw_p23, List.forall_mem_cons.mpr ⟨lw_p24, List.forall_mem_cons.mpr ⟨lw_p25, List.forall_mem_cons.mpr ⟨lw_p26, List.forall_mem_cons.mpr ⟨lw_p27, List.forall_mem_cons.mpr ⟨lw_p28, List.forall_mem_cons.mpr ⟨lw_p29, List.forall_mem_cons.mpr ⟨lw_p30, List.forall_mem_cons.mpr ⟨lw_p31, fun _ h => absurd h List.not_mem_nil⟩⟩⟩⟩⟩⟩⟩⟩⟩⟩⟩⟩⟩⟩⟩⟩
theorem lw_p32 : lw_okq (⟨"StreamEnd$Outgoing", "append", "(B)V"⟩, 13) := ⟨⟨by decide +kernel, by decide +kernel⟩, List.mem_of_getElem? (i := 25) (by decide +kernel), List.mem_of_getElem? (i := 540) (by decide +kernel), List.mem_of_getElem? (i := 541) (by decide +kernel)⟩
theorem lw_p33 : lw_okq (⟨"StreamEnd", "watchClosedWindow", "()V"⟩, 12) := ⟨⟨by decide +kernel, by decide +kernel⟩, List.mem_of_getElem? (i := 17) (by decide +kernel), List.mem_of_getElem? (i := 544) (by decide +kernel), List.mem_of_getElem? (i := 545) (by decide +kernel)⟩
theorem lw_p34 : lw_okq (⟨"StreamEnd$Outgoing", "hasUnthanked", "()Z"⟩, 13) := ⟨⟨by decide +kernel, by decide +kernel⟩, List.mem_of_getElem? (i := 25) (by decide +kernel), List.mem_of_getElem? (i := 548) (by decide +kernel), List.mem_of_getElem? (i := 549) (by decide +kernel)⟩
theorem lw_p35 : lw_okq (⟨"StreamEnd$Outgoing", "hasNew", "()Z"⟩, 13) := ⟨⟨by decide +kernel, by decide +kernel⟩, List.mem_of_getElem? (i := 25) (by decide +kernel), List.mem_of_getElem? (i := 552) (by decide +kernel), List.mem_of_getElem? (i := 553) (by decide +kernel)⟩
theorem lw_p36 : lw_okq (⟨"StreamEnd", "readByte", "()I"⟩, 12) := ⟨⟨by decide +kernel, by decide +kernel⟩, List.mem_of_getElem? (i := 17) (by decide +kernel), List.mem_of_getElem? (i := 564) (by decide +kernel), List.mem_of_getElem? (i := 565) (by decide +kernel)⟩
theorem lw_p37 : lw_okq (⟨"StreamEnd$Incoming", "takeByte", "()I"⟩, 8) := ⟨⟨by decide +kernel, by decide +kernel⟩, List.mem_of_getElem? (i := 81) (by decide +kernel), List.mem_of_getElem? (i := 568) (by decide +kernel), List.mem_of_getElem? (i := 569) (by decide +kernel)⟩
theorem lw_p38 : lw_okq (⟨"StreamEnd", "mayTakeBytes", "()Z"⟩, 12) := ⟨⟨by decide +kernel, by decide +kernel⟩, List.mem_of_getElem? (i := 17) (by decide +kernel), List.mem_of_getElem? (i := 572) (by decide +kernel), List.mem_of_getElem? (i := 573) (by decide +kernel)⟩
theorem lw_p39 : lw_okq (⟨"StreamEnd", "halt", "(I)V"⟩, 12) := ⟨⟨by decide +kernel, by decide +kernel⟩, List.mem_of_getElem? (i := 17) (by decide +kernel), List.mem_of_getElem? (i := 585) (by decide +kernel), List.mem_of_getElem? (i := 586) (by decide +kernel)⟩
theorem lw_p40 : lw_okq (⟨"StreamEnd", "beginQuiet", "()V"⟩, 12) := ⟨⟨by decide +kernel, by decide +kernel⟩, List.mem_of_getElem? (i := 17) (by decide +kernel), List.mem_of_getElem? (i := 590) (by decide +kernel), List.mem_of_getElem? (i := 591) (by decide +kernel)⟩
theorem lw_p41 : lw_okq (⟨"StreamEnd$Due", "resetIs", "(III)V"⟩, 9) := ⟨⟨by decide +kernel, by decide +kernel⟩, List.mem_of_getElem? (i := 168) (by decide +kernel), List.mem_of_getElem? (i := 602) (by decide +kernel), List.mem_of_getElem? (i := 603) (by decide +kernel)⟩
theorem lw_p42 : lw_okq (⟨"StreamEnd$Watch", "ticksToAlarm", "()I"⟩, 11) := ⟨⟨by decide +kernel, by decide +kernel⟩, List.mem_of_getElem? (i := 120) (by decide +kernel), List.mem_of_getElem? (i := 616) (by decide +kernel), List.mem_of_getElem? (i := 617) (by decide +kernel)⟩
theorem lw_p43 : lw_okq (⟨"StreamEnd", "takeEvents", "()V"⟩, 12) := ⟨⟨by decide +kernel, by decide +kernel⟩, List.mem_of_getElem? (i := 17) (by decide +kernel), List.mem_of_getElem? (i := 621) (by decide +kernel), List.mem_of_getElem? (i := 622) (by decide +kernel)⟩
theorem lw_p44 : lw_okq (⟨"StreamEnd", "takeAlarm", "()V"⟩, 12) := ⟨⟨by decide +kernel, by decide +kernel⟩, List.mem_of_getElem? (i := 17) (by decide +kernel), List.mem_of_getElem? (i := 625) (by decide +kernel), List.mem_of_getElem? (i := 626) (by decide +kernel)⟩
theorem lw_p45 : lw_okq (⟨"StreamEnd$Watch", "doubleWait", "()V"⟩, 11) := ⟨⟨by decide +kernel, by decide +kernel⟩, List.mem_of_getElem? (i := 120) (by decide +kernel), List.mem_of_getElem? (i := 629) (by decide +kernel), List.mem_of_getElem? (i := 630) (by decide +kernel)⟩
theorem lw_p46 : lw_okq (⟨"StreamEnd", "takeSegment", "()V"⟩, 12) := ⟨⟨by decide +kernel, by decide +kernel⟩, List.mem_of_getElem? (i := 17) (by decide +kernel), List.mem_of_getElem? (i := 689) (by decide +kernel), List.mem_of_getElem? (i := 690) (by decide +kernel)⟩
theorem lw_p47 : lw_okq (⟨"StreamEnd", "answerWithReset", "()V"⟩, 12) := ⟨⟨by decide +kernel, by decide +kernel⟩, List.mem_of_getElem? (i := 17) (by decide +kernel), List.mem_of_getElem? (i := 693) (by decide +kernel), List.mem_of_getElem? (i := 694) (by decide +kernel)⟩
def lw_privs_3 : List (MethodName × Nat) := [(⟨"StreamEnd$Outgoing", "append", "(B)V"⟩, 13), (⟨"StreamEnd", "watchClosedWindow", "()V"⟩, 12), (⟨"StreamEnd$Outgoing", "hasUnthanked", "()Z"⟩, 13), (⟨"StreamEnd$Outgoing", "hasNew", "()Z"⟩, 13), (⟨"StreamEnd", "readByte", "()I"⟩, 12), (⟨"StreamEnd$Incoming", "takeByte", "()I"⟩, 8), (⟨"StreamEnd", "mayTakeBytes", "()Z"⟩, 12), (⟨"StreamEnd", "halt", "(I)V"⟩, 12), (⟨"StreamEnd", "beginQuiet", "()V"⟩, 12), (⟨"StreamEnd$Due", "resetIs", "(III)V"⟩, 9), (⟨"StreamEnd$Watch", "ticksToAlarm", "()I"⟩, 11), (⟨"StreamEnd", "takeEvents", "()V"⟩, 12), (⟨"StreamEnd", "takeAlarm", "()V"⟩, 12), (⟨"StreamEnd$Watch", "doubleWait", "()V"⟩, 11), (⟨"StreamEnd", "takeSegment", "()V"⟩, 12), (⟨"StreamEnd", "answerWithReset", "()V"⟩, 12)]
theorem lw_r3 : ∀ q ∈ lw_privs_3, lw_okq q := List.forall_mem_cons.mpr ⟨lw_p32, List.forall_mem_cons.mpr ⟨lw_p33, List.forall_mem_cons.mpr ⟨lw_p34, List.forall_mem_cons.mpr ⟨lw_p35, List.forall_mem_cons.mpr ⟨lw_p36, List.forall_mem_cons.mpr ⟨lw_p37, List.forall_mem_cons.mpr ⟨lw_p38, List.forall_mem_cons.mpr ⟨lw_p39, List.forall_mem_cons.mpr ⟨lw_p40, List.forall_mem_cons.mpr ⟨lw_p41, List.forall_mem_cons.mpr ⟨lw_p42, List.forall_mem_cons.mpr ⟨lw_p43, List.forall_mem_cons.mpr ⟨lw_p44, List.forall_mem_cons.mpr ⟨lw_p45, List.forall_mem_cons.mpr ⟨lw_p46, List.forall_mem_cons.mpr ⟨lw_p47, fun _ h => absurd h List.not_mem_nil⟩⟩⟩⟩⟩⟩⟩⟩⟩⟩⟩⟩⟩⟩⟩⟩
theorem lw_p48 : lw_okq (⟨"StreamEnd$Segment", "size", "()I"⟩, 7) := ⟨⟨by decide +kernel, by decide +kernel⟩, List.mem_of_getElem? (i := 211) (by decide +kernel), List.mem_of_getElem? (i := 697) (by decide +kernel), List.mem_of_getElem? (i := 698) (by decide +kernel)⟩
theorem lw_p49 : lw_okq (⟨"StreamEnd", "takeWhenListening", "()V"⟩, 12) := ⟨⟨by decide +kernel, by decide +kernel⟩, List.mem_of_getElem? (i := 17) (by decide +kernel), List.mem_of_getElem? (i := 702) (by decide +kernel), List.mem_of_getElem? (i := 703) (by decide +kernel)⟩
theorem lw_p50 : lw_okq (⟨"StreamEnd", "takeOpen", "()V"⟩, 12) := ⟨⟨by decide +kernel, by decide +kernel⟩, List.mem_of_getElem? (i := 17) (by decide +kernel), List.mem_of_getElem? (i := 706) (by decide +kernel), List.mem_of_getElem? (i := 707) (by decide +kernel)⟩
theorem lw_p51 : lw_okq (⟨"StreamEnd$Incoming", "open", "(I)V"⟩, 8) := ⟨⟨by decide +kernel, by decide +kernel⟩, List.mem_of_getElem? (i := 81) (by decide +kernel), List.mem_of_getElem? (i := 710) (by decide +kernel), List.mem_of_getElem? (i := 711) (by decide +kernel)⟩
theorem lw_p52 : lw_okq (⟨"StreamEnd", "takeWhenAsking", "()V"⟩, 12) := ⟨⟨by decide +kernel, by decide +kernel⟩, List.mem_of_getElem? (i := 17) (by decide +kernel), List.mem_of_getElem? (i := 715) (by decide +kernel), List.mem_of_getElem? (i := 716) (by decide +kernel)⟩
theorem lw_p53 : lw_okq (⟨"StreamEnd", "takeThanked", "()V"⟩, 12) := ⟨⟨by decide +kernel, by decide +kernel⟩, List.mem_of_getElem? (i := 17) (by decide +kernel), List.mem_of_getElem? (i := 719) (by decide +kernel), List.mem_of_getElem? (i := 720) (by decide +kernel)⟩
theorem lw_p54 : lw_okq (⟨"StreamEnd$Outgoing", "thank", "(I)V"⟩, 13) := ⟨⟨by decide +kernel, by decide +kernel⟩, List.mem_of_getElem? (i := 25) (by decide +kernel), List.mem_of_getElem? (i := 723) (by decide +kernel), List.mem_of_getElem? (i := 724) (by decide +kernel)⟩
theorem lw_p55 : lw_okq (⟨"StreamEnd$Watch", "endMeasure", "(I)V"⟩, 11) := ⟨⟨by decide +kernel, by decide +kernel⟩, List.mem_of_getElem? (i := 120) (by decide +kernel), List.mem_of_getElem? (i := 727) (by decide +kernel), List.mem_of_getElem? (i := 728) (by decide +kernel)⟩
theorem lw_p56 : lw_okq (⟨"StreamEnd$Watch", "learn", "(I)V"⟩, 11) := ⟨⟨by decide +kernel, by decide +kernel⟩, List.mem_of_getElem? (i := 120) (by decide +kernel), List.mem_of_getElem? (i := 734) (by decide +kernel), List.mem_of_getElem? (i := 735) (by decide +kernel)⟩
theorem lw_p57 : lw_okq (⟨"StreamEnd$Incoming", "fits", "(II)Z"⟩, 8) := ⟨⟨by decide +kernel, by decide +kernel⟩, List.mem_of_getElem? (i := 81) (by decide +kernel), List.mem_of_getElem? (i := 742) (by decide +kernel), List.mem_of_getElem? (i := 743) (by decide +kernel)⟩
theorem lw_p58 : lw_okq (⟨"StreamEnd", "takeMisfit", "()V"⟩, 12) := ⟨⟨by decide +kernel, by decide +kernel⟩, List.mem_of_getElem? (i := 17) (by decide +kernel), List.mem_of_getElem? (i := 747) (by decide +kernel), List.mem_of_getElem? (i := 748) (by decide +kernel)⟩
theorem lw_p59 : lw_okq (⟨"StreamEnd", "takeReset", "()V"⟩, 12) := ⟨⟨by decide +kernel, by decide +kernel⟩, List.mem_of_getElem? (i := 17) (by decide +kernel), List.mem_of_getElem? (i := 751) (by decide +kernel), List.mem_of_getElem? (i := 752) (by decide +kernel)⟩
theorem lw_p60 : lw_okq (⟨"StreamEnd", "takeInStream", "()V"⟩, 12) := ⟨⟨by decide +kernel, by decide +kernel⟩, List.mem_of_getElem? (i := 17) (by decide +kernel), List.mem_of_getElem? (i := 755) (by decide +kernel), List.mem_of_getElem? (i := 756) (by decide +kernel)⟩
theorem lw_p61 : lw_okq (⟨"StreamEnd", "takeWindow", "()V"⟩, 12) := ⟨⟨by decide +kernel, by decide +kernel⟩, List.mem_of_getElem? (i := 17) (by decide +kernel), List.mem_of_getElem? (i := 762) (by decide +kernel), List.mem_of_getElem? (i := 763) (by decide +kernel)⟩
theorem lw_p62 : lw_okq (⟨"StreamEnd$Outgoing", "windowIsOlderThan", "(LStreamEnd$Segment;)Z"⟩, 13) := ⟨⟨by decide +kernel, by decide +kernel⟩, List.mem_of_getElem? (i := 25) (by decide +kernel), List.mem_of_getElem? (i := 766) (by decide +kernel), List.mem_of_getElem? (i := 767) (by decide +kernel)⟩
theorem lw_p63 : lw_okq (⟨"StreamEnd$Outgoing", "lastIsThanked", "()Z"⟩, 13) := ⟨⟨by decide +kernel, by decide +kernel⟩, List.mem_of_getElem? (i := 25) (by decide +kernel), List.mem_of_getElem? (i := 772) (by decide +kernel), List.mem_of_getElem? (i := 773) (by decide +kernel)⟩
def lw_privs_4 : List (MethodName × Nat) := [(⟨"StreamEnd$Segment", "size", "()I"⟩, 7), (⟨"StreamEnd", "takeWhenListening", "()V"⟩, 12), (⟨"StreamEnd", "takeOpen", "()V"⟩, 12), (⟨"StreamEnd$Incoming", "open", "(I)V"⟩, 8), (⟨"StreamEnd", "takeWhenAsking", "()V"⟩, 12), (⟨"StreamEnd", "takeThanked", "()V"⟩, 12), (⟨"StreamEnd$Outgoing", "thank", "(I)V"⟩, 13), (⟨"StreamEnd$Watch", "endMeasure", "(I)V"⟩, 11), (⟨"StreamEnd$Watch", "learn", "(I)V"⟩, 11), (⟨"StreamEnd$Incoming", "fits", "(II)Z"⟩, 8), (⟨"StreamEnd", "takeMisfit", "()V"⟩, 12), (⟨"StreamEnd", "takeReset", "()V"⟩, 12), (⟨"StreamEnd", "takeInStream", "()V"⟩, 12), (⟨"StreamEnd", "takeWindow", "()V"⟩, 12), (⟨"StreamEnd$Outgoing", "windowIsOlderThan", "(LStreamEnd$Segment;)Z"⟩, 13), (⟨"StreamEnd$Outgoing", "lastIsThanked", "()Z"⟩, 13)]
theorem lw_r4 : ∀ q ∈ lw_privs_4, lw_okq q := List.forall_mem_cons.mpr ⟨lw_p48, List.forall_mem_cons.mpr ⟨lw_p49, List.forall_mem_cons.mpr ⟨lw_p50, List.forall_mem_cons.mpr ⟨lw_p51, List.forall_mem_cons.mpr ⟨lw_p52, List.forall_mem_cons.mpr ⟨lw_p53, List.forall_mem_cons.mpr ⟨lw_p54, List.forall_mem_cons.mpr ⟨lw_p55, List.forall_mem_cons.mpr ⟨lw_p56, List.forall_mem_cons.mpr ⟨lw_p57, List.forall_mem_cons.mpr ⟨lw_p58, List.forall_mem_cons.mpr ⟨lw_p59, List.forall_mem_cons.mpr ⟨lw_p60, List.forall_mem_cons.mpr ⟨lw_p61, List.forall_mem_cons.mpr ⟨lw_p62, List.forall_mem_cons.mpr ⟨lw_p63, fun _ h => absurd h List.not_mem_nil⟩⟩⟩⟩⟩⟩⟩⟩⟩⟩⟩⟩⟩⟩⟩⟩
theorem lw_p64 : lw_okq (⟨"StreamEnd", "leave", "()V"⟩, 12) := ⟨⟨by decide +kernel, by decide +kernel⟩, List.mem_of_getElem? (i := 17) (by decide +kernel), List.mem_of_getElem? (i := 777) (by decide +kernel), List.mem_of_getElem? (i := 778) (by decide +kernel)⟩
theorem lw_p65 : lw_okq (⟨"StreamEnd", "takeBytes", "()V"⟩, 12) := ⟨⟨by decide +kernel, by decide +kernel⟩, List.mem_of_getElem? (i := 17) (by decide +kernel), List.mem_of_getElem? (i := 781) (by decide +kernel), List.mem_of_getElem? (i := 782) (by decide +kernel)⟩
theorem lw_p66 : lw_okq (⟨"StreamEnd$Incoming", "store", "(LStreamEnd$Segment;)V"⟩, 8) := ⟨⟨by decide +kernel, by decide +kernel⟩, List.mem_of_getElem? (i := 81) (by decide +kernel), List.mem_of_getElem? (i := 785) (by decide +kernel), List.mem_of_getElem? (i := 786) (by decide +kernel)⟩
theorem lw_p67 : lw_okq (⟨"StreamEnd$Incoming", "noteLast", "(I)V"⟩, 8) := ⟨⟨by decide +kernel, by decide +kernel⟩, List.mem_of_getElem? (i := 81) (by decide +kernel), List.mem_of_getElem? (i := 791) (by decide +kernel), List.mem_of_getElem? (i := 792) (by decide +kernel)⟩
theorem lw_p68 : lw_okq (⟨"StreamEnd$Incoming", "goOn", "()V"⟩, 8) := ⟨⟨by decide +kernel, by decide +kernel⟩, List.mem_of_getElem? (i := 81) (by decide +kernel), List.mem_of_getElem? (i := 795) (by decide +kernel), List.mem_of_getElem? (i := 796) (by decide +kernel)⟩
theorem lw_p69 : lw_okq (⟨"StreamEnd$Incoming", "isAtLast", "()Z"⟩, 8) := ⟨⟨by decide +kernel, by decide +kernel⟩, List.mem_of_getElem? (i := 81) (by decide +kernel), List.mem_of_getElem? (i := 799) (by decide +kernel), List.mem_of_getElem? (i := 800) (by decide +kernel)⟩
theorem lw_p70 : lw_okq (⟨"StreamEnd", "peerLeaves", "()V"⟩, 12) := ⟨⟨by decide +kernel, by decide +kernel⟩, List.mem_of_getElem? (i := 17) (by decide +kernel), List.mem_of_getElem? (i := 803) (by decide +kernel), List.mem_of_getElem? (i := 804) (by decide +kernel)⟩
theorem lw_p71 : lw_okq (⟨"StreamEndModel", "clear", "(I)V"⟩, 50) := ⟨⟨by decide +kernel, by decide +kernel⟩, List.mem_of_getElem? (i := 815) (by decide +kernel), List.mem_of_getElem? (i := 977) (by decide +kernel), List.mem_of_getElem? (i := 978) (by decide +kernel)⟩
theorem lw_p72 : lw_okq (⟨"StreamEndModel", "quiesce", "()V"⟩, 50) := ⟨⟨by decide +kernel, by decide +kernel⟩, List.mem_of_getElem? (i := 815) (by decide +kernel), List.mem_of_getElem? (i := 981) (by decide +kernel), List.mem_of_getElem? (i := 982) (by decide +kernel)⟩
theorem lw_p73 : lw_okq (⟨"StreamEndModel", "watch", "()V"⟩, 50) := ⟨⟨by decide +kernel, by decide +kernel⟩, List.mem_of_getElem? (i := 815) (by decide +kernel), List.mem_of_getElem? (i := 990) (by decide +kernel), List.mem_of_getElem? (i := 991) (by decide +kernel)⟩
theorem lw_p74 : lw_okq (⟨"StreamEndModel", "sends", "()Z"⟩, 50) := ⟨⟨by decide +kernel, by decide +kernel⟩, List.mem_of_getElem? (i := 815) (by decide +kernel), List.mem_of_getElem? (i := 994) (by decide +kernel), List.mem_of_getElem? (i := 995) (by decide +kernel)⟩
theorem lw_p75 : lw_okq (⟨"StreamEndModel", "unsent", "()I"⟩, 50) := ⟨⟨by decide +kernel, by decide +kernel⟩, List.mem_of_getElem? (i := 815) (by decide +kernel), List.mem_of_getElem? (i := 998) (by decide +kernel), List.mem_of_getElem? (i := 999) (by decide +kernel)⟩
theorem lw_p76 : lw_okq (⟨"StreamEndModel", "owesLast", "()Z"⟩, 50) := ⟨⟨by decide +kernel, by decide +kernel⟩, List.mem_of_getElem? (i := 815) (by decide +kernel), List.mem_of_getElem? (i := 1002) (by decide +kernel), List.mem_of_getElem? (i := 1003) (by decide +kernel)⟩
theorem lw_p77 : lw_okq (⟨"StreamEndModel", "isShort", "()Z"⟩, 50) := ⟨⟨by decide +kernel, by decide +kernel⟩, List.mem_of_getElem? (i := 815) (by decide +kernel), List.mem_of_getElem? (i := 1010) (by decide +kernel), List.mem_of_getElem? (i := 1011) (by decide +kernel)⟩
theorem lw_p78 : lw_okq (⟨"StreamEndModel", "room", "()I"⟩, 50) := ⟨⟨by decide +kernel, by decide +kernel⟩, List.mem_of_getElem? (i := 815) (by decide +kernel), List.mem_of_getElem? (i := 1014) (by decide +kernel), List.mem_of_getElem? (i := 1015) (by decide +kernel)⟩
theorem lw_p79 : lw_okq (⟨"StreamEndModel", "becomes", "(I)V"⟩, 50) := ⟨⟨by decide +kernel, by decide +kernel⟩, List.mem_of_getElem? (i := 815) (by decide +kernel), List.mem_of_getElem? (i := 1022) (by decide +kernel), List.mem_of_getElem? (i := 1023) (by decide +kernel)⟩
def lw_privs_5 : List (MethodName × Nat) := [(⟨"StreamEnd", "leave", "()V"⟩, 12), (⟨"StreamEnd", "takeBytes", "()V"⟩, 12), (⟨"StreamEnd$Incoming", "store", "(LStreamEnd$Segment;)V"⟩, 8), (⟨"StreamEnd$Incoming", "noteLast", "(I)V"⟩, 8), (⟨"StreamEnd$Incoming", "goOn", "()V"⟩, 8), (⟨"StreamEnd$Incoming", "isAtLast", "()Z"⟩, 8), (⟨"StreamEnd", "peerLeaves", "()V"⟩, 12), (⟨"StreamEndModel", "clear", "(I)V"⟩, 50), (⟨"StreamEndModel", "quiesce", "()V"⟩, 50), (⟨"StreamEndModel", "watch", "()V"⟩, 50), (⟨"StreamEndModel", "sends", "()Z"⟩, 50), (⟨"StreamEndModel", "unsent", "()I"⟩, 50), (⟨"StreamEndModel", "owesLast", "()Z"⟩, 50), (⟨"StreamEndModel", "isShort", "()Z"⟩, 50), (⟨"StreamEndModel", "room", "()I"⟩, 50), (⟨"StreamEndModel", "becomes", "(I)V"⟩, 50)]
theorem lw_r5 : ∀ q ∈ lw_privs_5, lw_okq q := List.forall_mem_cons.mpr ⟨lw_p64, List.forall_mem_cons.mpr ⟨lw_p65, List.forall_mem_cons.mpr ⟨lw_p66, List.forall_mem_cons.mpr ⟨lw_p67, List.forall_mem_cons.mpr ⟨lw_p68, List.forall_mem_cons.mpr ⟨lw_p69, List.forall_mem_cons.mpr ⟨lw_p70, List.forall_mem_cons.mpr ⟨lw_p71, List.forall_mem_cons.mpr ⟨lw_p72, List.forall_mem_cons.mpr ⟨lw_p73, List.forall_mem_cons.mpr ⟨lw_p74, List.forall_mem_cons.mpr ⟨lw_p75, List.forall_mem_cons.mpr ⟨lw_p76, List.forall_mem_cons.mpr ⟨lw_p77, List.forall_mem_cons.mpr ⟨lw_p78, List.forall_mem_cons.mpr ⟨lw_p79, fun _ h => absurd h List.not_mem_nil⟩⟩⟩⟩⟩⟩⟩⟩⟩⟩⟩⟩⟩⟩⟩⟩
theorem lw_p80 : lw_okq (⟨"StreamEndModel", "ring", "()V"⟩, 50) := ⟨⟨by decide +kernel, by decide +kernel⟩, List.mem_of_getElem? (i := 815) (by decide +kernel), List.mem_of_getElem? (i := 1035) (by decide +kernel), List.mem_of_getElem? (i := 1036) (by decide +kernel)⟩
theorem lw_p81 : lw_okq (⟨"StreamEndModel", "resets", "(III)V"⟩, 50) := ⟨⟨by decide +kernel, by decide +kernel⟩, List.mem_of_getElem? (i := 815) (by decide +kernel), List.mem_of_getElem? (i := 1048) (by decide +kernel), List.mem_of_getElem? (i := 1049) (by decide +kernel)⟩
theorem lw_p82 : lw_okq (⟨"StreamEndModel", "size", "(I)I"⟩, 50) := ⟨⟨by decide +kernel, by decide +kernel⟩, List.mem_of_getElem? (i := 815) (by decide +kernel), List.mem_of_getElem? (i := 1055) (by decide +kernel), List.mem_of_getElem? (i := 1056) (by decide +kernel)⟩
theorem lw_p83 : lw_okq (⟨"StreamEndModel", "toListening", "(IIIII)V"⟩, 50) := ⟨⟨by decide +kernel, by decide +kernel⟩, List.mem_of_getElem? (i := 815) (by decide +kernel), List.mem_of_getElem? (i := 1059) (by decide +kernel), List.mem_of_getElem? (i := 1060) (by decide +kernel)⟩
theorem lw_p84 : lw_okq (⟨"StreamEndModel", "greet", "(IIIII)V"⟩, 50) := ⟨⟨by decide +kernel, by decide +kernel⟩, List.mem_of_getElem? (i := 815) (by decide +kernel), List.mem_of_getElem? (i := 1063) (by decide +kernel), List.mem_of_getElem? (i := 1064) (by decide +kernel)⟩
theorem lw_p85 : lw_okq (⟨"StreamEndModel", "toAsking", "(IIIII)V"⟩, 50) := ⟨⟨by decide +kernel, by decide +kernel⟩, List.mem_of_getElem? (i := 815) (by decide +kernel), List.mem_of_getElem? (i := 1067) (by decide +kernel), List.mem_of_getElem? (i := 1068) (by decide +kernel)⟩
theorem lw_p86 : lw_okq (⟨"StreamEndModel", "thanked", "(I)V"⟩, 50) := ⟨⟨by decide +kernel, by decide +kernel⟩, List.mem_of_getElem? (i := 815) (by decide +kernel), List.mem_of_getElem? (i := 1071) (by decide +kernel), List.mem_of_getElem? (i := 1072) (by decide +kernel)⟩
theorem lw_p87 : lw_okq (⟨"StreamEndModel", "learn", "(I)V"⟩, 50) := ⟨⟨by decide +kernel, by decide +kernel⟩, List.mem_of_getElem? (i := 815) (by decide +kernel), List.mem_of_getElem? (i := 1075) (by decide +kernel), List.mem_of_getElem? (i := 1076) (by decide +kernel)⟩
theorem lw_p88 : lw_okq (⟨"StreamEndModel", "toOthers", "(IIII)V"⟩, 50) := ⟨⟨by decide +kernel, by decide +kernel⟩, List.mem_of_getElem? (i := 815) (by decide +kernel), List.mem_of_getElem? (i := 1079) (by decide +kernel), List.mem_of_getElem? (i := 1080) (by decide +kernel)⟩
theorem lw_p89 : lw_okq (⟨"StreamEndModel", "fits", "(II)Z"⟩, 50) := ⟨⟨by decide +kernel, by decide +kernel⟩, List.mem_of_getElem? (i := 815) (by decide +kernel), List.mem_of_getElem? (i := 1083) (by decide +kernel), List.mem_of_getElem? (i := 1084) (by decide +kernel)⟩
theorem lw_p90 : lw_okq (⟨"StreamEndModel", "hitByReset", "(Z)V"⟩, 50) := ⟨⟨by decide +kernel, by decide +kernel⟩, List.mem_of_getElem? (i := 815) (by decide +kernel), List.mem_of_getElem? (i := 1087) (by decide +kernel), List.mem_of_getElem? (i := 1088) (by decide +kernel)⟩
theorem lw_p91 : lw_okq (⟨"StreamEndModel", "tell", "(III)V"⟩, 50) := ⟨⟨by decide +kernel, by decide +kernel⟩, List.mem_of_getElem? (i := 815) (by decide +kernel), List.mem_of_getElem? (i := 1091) (by decide +kernel), List.mem_of_getElem? (i := 1092) (by decide +kernel)⟩
theorem lw_p92 : lw_okq (⟨"StreamEndModel", "wasLast", "()Z"⟩, 50) := ⟨⟨by decide +kernel, by decide +kernel⟩, List.mem_of_getElem? (i := 815) (by decide +kernel), List.mem_of_getElem? (i := 1095) (by decide +kernel), List.mem_of_getElem? (i := 1096) (by decide +kernel)⟩
theorem lw_p93 : lw_okq (⟨"StreamEndModel", "take", "(II)V"⟩, 50) := ⟨⟨by decide +kernel, by decide +kernel⟩, List.mem_of_getElem? (i := 815) (by decide +kernel), List.mem_of_getElem? (i := 1099) (by decide +kernel), List.mem_of_getElem? (i := 1100) (by decide +kernel)⟩
theorem lw_p94 : lw_okq (⟨"StreamEndModel", "make", "(IIIII)V"⟩, 50) := ⟨⟨by decide +kernel, by decide +kernel⟩, List.mem_of_getElem? (i := 815) (by decide +kernel), List.mem_of_getElem? (i := 1107) (by decide +kernel), List.mem_of_getElem? (i := 1108) (by decide +kernel)⟩
theorem lw_p95 : lw_okq (⟨"StreamEndModel", "sendOpen", "()V"⟩, 50) := ⟨⟨by decide +kernel, by decide +kernel⟩, List.mem_of_getElem? (i := 815) (by decide +kernel), List.mem_of_getElem? (i := 1111) (by decide +kernel), List.mem_of_getElem? (i := 1112) (by decide +kernel)⟩
def lw_privs_6 : List (MethodName × Nat) := [(⟨"StreamEndModel", "ring", "()V"⟩, 50), (⟨"StreamEndModel", "resets", "(III)V"⟩, 50), (⟨"StreamEndModel", "size", "(I)I"⟩, 50), (⟨"StreamEndModel", "toListening", "(IIIII)V"⟩, 50), (⟨"StreamEndModel", "greet", "(IIIII)V"⟩, 50), (⟨"StreamEndModel", "toAsking", "(IIIII)V"⟩, 50), (⟨"StreamEndModel", "thanked", "(I)V"⟩, 50), (⟨"StreamEndModel", "learn", "(I)V"⟩, 50), (⟨"StreamEndModel", "toOthers", "(IIII)V"⟩, 50), (⟨"StreamEndModel", "fits", "(II)Z"⟩, 50), (⟨"StreamEndModel", "hitByReset", "(Z)V"⟩, 50), (⟨"StreamEndModel", "tell", "(III)V"⟩, 50), (⟨"StreamEndModel", "wasLast", "()Z"⟩, 50), (⟨"StreamEndModel", "take", "(II)V"⟩, 50), (⟨"StreamEndModel", "make", "(IIIII)V"⟩, 50), (⟨"StreamEndModel", "sendOpen", "()V"⟩, 50)]
theorem lw_r6 : ∀ q ∈ lw_privs_6, lw_okq q := List.forall_mem_cons.mpr ⟨lw_p80, List.forall_mem_cons.mpr ⟨lw_p81, List.forall_mem_cons.mpr ⟨lw_p82, List.forall_mem_cons.mpr ⟨lw_p83, List.forall_mem_cons.mpr ⟨lw_p84, List.forall_mem_cons.mpr ⟨lw_p85, List.forall_mem_cons.mpr ⟨lw_p86, List.forall_mem_cons.mpr ⟨lw_p87, List.forall_mem_cons.mpr ⟨lw_p88, List.forall_mem_cons.mpr ⟨lw_p89, List.forall_mem_cons.mpr ⟨lw_p90, List.forall_mem_cons.mpr ⟨lw_p91, List.forall_mem_cons.mpr ⟨lw_p92, List.forall_mem_cons.mpr ⟨lw_p93, List.forall_mem_cons.mpr ⟨lw_p94, List.forall_mem_cons.mpr ⟨lw_p95, fun _ h => absurd h List.not_mem_nil⟩⟩⟩⟩⟩⟩⟩⟩⟩⟩⟩⟩⟩⟩⟩⟩
theorem lw_p96 : lw_okq (⟨"StreamEndModel", "tellBytes", "(III)V"⟩, 50) := ⟨⟨by decide +kernel, by decide +kernel⟩, List.mem_of_getElem? (i := 815) (by decide +kernel), List.mem_of_getElem? (i := 1115) (by decide +kernel), List.mem_of_getElem? (i := 1116) (by decide +kernel)⟩
theorem lw_p97 : lw_okq (⟨"StreamEndModel", "sent", "(IZ)V"⟩, 50) := ⟨⟨by decide +kernel, by decide +kernel⟩, List.mem_of_getElem? (i := 815) (by decide +kernel), List.mem_of_getElem? (i := 1119) (by decide +kernel), List.mem_of_getElem? (i := 1120) (by decide +kernel)⟩
theorem lw_p98 : lw_okq (⟨"StreamEndModel", "sendAgain", "()V"⟩, 50) := ⟨⟨by decide +kernel, by decide +kernel⟩, List.mem_of_getElem? (i := 815) (by decide +kernel), List.mem_of_getElem? (i := 1123) (by decide +kernel), List.mem_of_getElem? (i := 1124) (by decide +kernel)⟩
theorem lw_p99 : lw_okq (⟨"StreamEndModel", "sendFresh", "()Z"⟩, 50) := ⟨⟨by decide +kernel, by decide +kernel⟩, List.mem_of_getElem? (i := 815) (by decide +kernel), List.mem_of_getElem? (i := 1127) (by decide +kernel), List.mem_of_getElem? (i := 1128) (by decide +kernel)⟩
theorem lw_p100 : lw_okq (⟨"StreamEndModel", "sendNew", "(IZ)V"⟩, 50) := ⟨⟨by decide +kernel, by decide +kernel⟩, List.mem_of_getElem? (i := 815) (by decide +kernel), List.mem_of_getElem? (i := 1131) (by decide +kernel), List.mem_of_getElem? (i := 1132) (by decide +kernel)⟩
def lw_privs_7 : List (MethodName × Nat) := [(⟨"StreamEndModel", "tellBytes", "(III)V"⟩, 50), (⟨"StreamEndModel", "sent", "(IZ)V"⟩, 50), (⟨"StreamEndModel", "sendAgain", "()V"⟩, 50), (⟨"StreamEndModel", "sendFresh", "()Z"⟩, 50), (⟨"StreamEndModel", "sendNew", "(IZ)V"⟩, 50)]
theorem lw_r7 : ∀ q ∈ lw_privs_7, lw_okq q := List.forall_mem_cons.mpr ⟨lw_p96, List.forall_mem_cons.mpr ⟨lw_p97, List.forall_mem_cons.mpr ⟨lw_p98, List.forall_mem_cons.mpr ⟨lw_p99, List.forall_mem_cons.mpr ⟨lw_p100, fun _ h => absurd h List.not_mem_nil⟩⟩⟩⟩⟩
def lw_privs : List (MethodName × Nat) := lw_privs_1 ++ (lw_privs_2 ++ (lw_privs_3 ++ (lw_privs_4 ++ (lw_privs_5 ++ (lw_privs_6 ++ (lw_privs_7))))))
def lw_tbl : List Cond := k2_sels lw_privs ++ tables_1
theorem lw_privs_ok : ∀ q ∈ lw_privs, lw_okq q := by
  show ∀ q ∈ lw_privs_1 ++ (lw_privs_2 ++ (lw_privs_3 ++ (lw_privs_4 ++ (lw_privs_5 ++ (lw_privs_6 ++ (lw_privs_7)))))), lw_okq q
  exact List.forall_mem_append.mpr ⟨lw_r1, List.forall_mem_append.mpr ⟨lw_r2, List.forall_mem_append.mpr ⟨lw_r3, List.forall_mem_append.mpr ⟨lw_r4, List.forall_mem_append.mpr ⟨lw_r5, List.forall_mem_append.mpr ⟨lw_r6, lw_r7⟩⟩⟩⟩⟩⟩
end
section
/-! MY BASE, 0: one list of words for every method -/
def se_all : List Cond := lw_tbl.filter goodWord
theorem se_good {w : Cond} (h : w ∈ se_all) : goodWord w = true := (List.mem_filter.mp h).2
theorem se_tbl {w : Cond} (h : w ∈ se_all) : w ∈ lw_tbl := (List.mem_filter.mp h).1
theorem se_in {w : Cond} (i : Nat) (h : tables_1[i]? = some w) (hg : goodWord w = true) : w ∈ se_all := List.mem_filter.mpr ⟨List.mem_append_right _ (List.mem_of_getElem? h), hg⟩
theorem se_inL {ws : List Cond} (ps : List Nat) (h : ws = ps.filterMap (fun i => tables_1[i]?)) (hg : ws.all goodWord = true) : ∀ w ∈ ws, w ∈ se_all := by
  intro w hw
  have h1 := List.all_eq_true.mp hg w hw
  rw [h] at hw
  obtain ⟨i, -, hi⟩ := List.mem_filterMap.mp hw
  exact se_in i hi h1
theorem se_inS {y : MethodName} {n : Nat} (h : (y, n) ∈ lw_privs) : Cond.selects y.cls y y ∈ se_all := List.mem_filter.mpr ⟨List.mem_append_left _ (List.mem_map.mpr ⟨(y, n), h, rfl⟩), rfl⟩
theorem se_iw {ws : List Cond} {a : Cond} (h : ∀ w ∈ ws, w ∈ se_all) : ∀ w ∈ ws, w ∈ a :: se_all := fun w hw => List.mem_cons_of_mem _ (h w hw)
theorem se_gi {a b : Cond} (hb : b ∈ se_all) : GoodIn (a :: se_all) (b :: se_all) := by
  intro w h
  rcases List.mem_cons.mp h with rfl | h
  · exact ⟨List.mem_cons_of_mem _ hb, good_of_word (se_good hb)⟩
  · exact ⟨List.mem_cons_of_mem _ h, good_of_word (se_good h)⟩
section SE0
variable {R : Room} {s : State} {args : Array Value} {own C host : String} {index maxL : Nat} {y : MethodName} {bytes : ByteArray} {ret : Option FieldType} {rm : Room} {a0 : Cond} {mc ms : Nat}
theorem se_kV (n : Nat) (hts : ∀ w ∈ a0 :: se_all, w.before args s = true) (hc : Cond.code y bytes maxL ret ∈ se_all) (hl : Cond.methodLink own index y ∈ se_all) (hi : Cond.initialized C ∈ se_all) (hin : Cond.instanceMethod y ∈ se_all) (hs : Cond.selects C y y ∈ se_all)
    (hd : y.cls = C ∧ y.cls ≠ "java/lang/invoke/MethodHandle" ∧ y.cls ≠ "java/lang/invoke/VarHandle" ∧ (parseMethodDescriptor y.desc).map (fun d => d.parameters.length) = some n) (hR : rm.frames + 1 ≤ R.frames ∧ 8 + (maxL + 11) + rm.locals ≤ R.locals) (hrc : rm.cells = mc) (hrs : rm.slots = ms) :
    CallW R s args own C index y bytes maxL ret (Cond.code y bytes maxL ret :: se_all) rm mc ms n := by
  have t : ∀ w ∈ se_all, w.before args s = true := fun w h => hts w (List.mem_cons_of_mem _ h)
  obtain ⟨hC, hd⟩ := hd
  subst hC
  exact ⟨callB_of n hts (se_gi hc) rfl hrc hrs (t _ hi) (t _ hl) hd hR, t _ hin, t _ hs⟩
theorem se_kVN (n : Nat) (hts : ∀ w ∈ a0 :: se_all, w.before args s = true) (hc : Cond.code y bytes maxL ret ∈ se_all) (hl : va_Nw (.methodLinkNest own index y host) s) (hi : Cond.initialized C ∈ se_all) (hin : Cond.instanceMethod y ∈ se_all) (hs : Cond.selects C y y ∈ se_all)
    (hd : y.cls = C ∧ y.cls ≠ "java/lang/invoke/MethodHandle" ∧ y.cls ≠ "java/lang/invoke/VarHandle" ∧ (parseMethodDescriptor y.desc).map (fun d => d.parameters.length) = some n) (hR : rm.frames + 1 ≤ R.frames ∧ 8 + (maxL + 11) + rm.locals ≤ R.locals) (hrc : rm.cells = mc) (hrs : rm.slots = ms) :
    va_CN R s args own index y host bytes maxL ret (Cond.code y bytes maxL ret :: se_all) rm mc ms n ∧ (Cond.instanceMethod y).before args s = true ∧ (Cond.selects C y y).before args s = true := by
  have t : ∀ w ∈ se_all, w.before args s = true := fun w h => hts w (List.mem_cons_of_mem _ h)
  obtain ⟨hC, hd⟩ := hd
  subst hC
  exact ⟨va_cnB n hts (se_gi hc) rfl hrc hrs hl (t _ hi) hd hR, t _ hin, t _ hs⟩
theorem se_kS (n : Nat) (hts : ∀ w ∈ a0 :: se_all, w.before args s = true) (hc : Cond.code y bytes maxL ret ∈ se_all) (hl : Cond.methodLink own index y ∈ se_all) (hi : Cond.initialized C ∈ se_all) (hst : Cond.static y ∈ se_all)
    (hd : y.cls = C ∧ y.cls ≠ "java/lang/invoke/MethodHandle" ∧ y.cls ≠ "java/lang/invoke/VarHandle" ∧ (parseMethodDescriptor y.desc).map (fun d => d.parameters.length) = some n) (hR : rm.frames + 1 ≤ R.frames ∧ 8 + (maxL + 11) + rm.locals ≤ R.locals) (hrc : rm.cells = mc) (hrs : rm.slots = ms) :
    CallB R s args own index y bytes maxL ret (Cond.code y bytes maxL ret :: se_all) rm mc ms n ∧ (Cond.static y).before args s = true := by
  have t : ∀ w ∈ se_all, w.before args s = true := fun w h => hts w (List.mem_cons_of_mem _ h)
  obtain ⟨hC, hd⟩ := hd
  subst hC
  exact ⟨callB_of n hts (se_gi hc) rfl hrc hrs (t _ hi) (t _ hl) hd hR, t _ hst⟩
theorem se_kSN (n : Nat) (hts : ∀ w ∈ a0 :: se_all, w.before args s = true) (hc : Cond.code y bytes maxL ret ∈ se_all) (hl : va_Nw (.methodLinkNest own index y host) s) (hi : Cond.initialized C ∈ se_all) (hst : Cond.static y ∈ se_all)
    (hd : y.cls = C ∧ y.cls ≠ "java/lang/invoke/MethodHandle" ∧ y.cls ≠ "java/lang/invoke/VarHandle" ∧ (parseMethodDescriptor y.desc).map (fun d => d.parameters.length) = some n) (hR : rm.frames + 1 ≤ R.frames ∧ 8 + (maxL + 11) + rm.locals ≤ R.locals) (hrc : rm.cells = mc) (hrs : rm.slots = ms) :
    va_CN R s args own index y host bytes maxL ret (Cond.code y bytes maxL ret :: se_all) rm mc ms n ∧ (Cond.static y).before args s = true ∧ True := by
  have t : ∀ w ∈ se_all, w.before args s = true := fun w h => hts w (List.mem_cons_of_mem _ h)
  obtain ⟨hC, hd⟩ := hd
  subst hC
  exact ⟨va_cnB n hts (se_gi hc) rfl hrc hrs hl (t _ hi) hd hR, t _ hst, trivial⟩
end SE0
end
section
/-! MY BASE: a system's state is one function (object number, field number or place) to Int32; every method's contract speaks of the system's whole world. -/
abbrev se_G : Type := Nat → Nat → Int32
def se_u (g : se_G) (i j : Nat) (v : Int32) : se_G := fun a => if a = i then upd (g i) j v else g a
def se_Pre (D : va_G) (cl : List vw_C) (tys : List (ClassId × FieldType)) (w : va_W) (Z : State → Prop) (sz : Nat) (U : State) : Prop := U.heap.size = sz ∧ va_P D cl w U.heap ∧ va_K D cl tys U ∧ va_D (fun _ => True) w ∧ Z U
def se_At (D : va_G) (cl : List vw_C) (tys : List (ClassId × FieldType)) (wf : se_G → va_W) (A : Nat → Prop) (u : se_G) (t : State) : Prop := va_P D cl (wf u) t.heap ∧ va_K D cl tys t ∧ va_D A (wf u)
def se_Qv (D : va_G) (cl : List vw_C) (tys : List (ClassId × FieldType)) (wf : se_G → va_W) (val : se_G) (A : Nat → Prop) : Array Value → State → Outcome → State → Prop := va_Qv (fun u : se_G => u = val) (se_At D cl tys wf A) A
def se_Qi (D : va_G) (cl : List vw_C) (tys : List (ClassId × FieldType)) (wf : se_G → va_W) (val : Int32 × se_G) (A : Nat → Prop) : Array Value → State → Outcome → State → Prop := va_Qi (fun (r : Int32) (u : se_G) => (r, u) = val) (se_At D cl tys wf A) A
def se_Qp (D : va_G) (cl : List vw_C) (tys : List (ClassId × FieldType)) (wf : se_G → va_W) (r0 : Int32) (g0 : se_G) (A : Nat → Prop) : Array Value → State → Outcome → State → Prop := va_Qi (fun (r : Int32) (u : se_G) => r = r0 ∧ u = g0) (se_At D cl tys wf A) A
/-- what a method takes as given beside its world: kept when a frame is laid, and by all that only warms the tables -/
def se_Zok (Z : State → Prop) : Prop := (∀ (U : State) (g : JFrame) (mk : MethodId) (a : Array Value), Z U → Z (U.calling g mk a)) ∧ ∀ s U : State, s.WarmedH U.vm → Z s → Z U
def se_isN (w : Cond) : Bool := match w with
  | .fieldLinkNest _ _ _ _ _ _ => true
  | .methodLinkNest _ _ _ _ => true
  | _ => false
def se_N (L : List Cond) (U : State) : Prop := ∀ w ∈ L, se_isN w = true → va_Nw w U
theorem se_N_ok (L : List Cond) : se_Zok (se_N L) := by
  refine ⟨fun U g mk a h w hw hn => ?_, fun s U hW h w hw hn => ?_⟩
  · have h1 := h w hw hn
    cases w <;> first | exact va_Nw.same rfl rfl h1 | (simp [se_isN] at hn; done)
  · have h1 := h w hw hn
    cases w <;> first | exact va_Nw.warmF hW h1 | exact va_Nw.warmM hW h1 | (simp [se_isN] at hn; done)
theorem se_blind {av : List Value} {D : va_G} {cl : List vw_C} {tys : List (ClassId × FieldType)} {w : va_W} {Z : State → Prop} {sz : Nat} (hZ : se_Zok Z) : FrameBlind (va_Pc av (se_Pre D cl tys w Z sz)) := by
  intro a U g mk q
  obtain ⟨q0, q1, qP, qK, qD, qZ⟩ := q
  exact ⟨q0, q1, qP, va_K.moved (u := U) (U := U.calling g mk a) (Vm.Alike.refl U.vm) qK, qD, hZ.1 U g mk a qZ⟩
theorem se_pre {s : State} {H : Heap} {A : Nat → Prop} {av : List Value} {D : va_G} {cl : List vw_C} {tys : List (ClassId × FieldType)} {w : va_W} {Z : State → Prop} (hZ : se_Zok Z) (hP : va_P D cl w H) (hK : va_K D cl tys s) (hD : va_D A w) (hz : Z s) : ∀ U : State, U.heap = H → s.WarmedH U.vm → va_Pc av (se_Pre D cl tys w Z H.size) av.toArray U :=
  fun U hU hW => ⟨rfl, by rw [hU], by rw [hU]; exact hP, va_K.moved hW.alike hK, hD.weaken (fun _ _ _ _ => trivial), hZ.2 s U hW hz⟩
/-- a method's head -/
theorem se_met {l : Launch} {y : MethodName} {ws ws' : List Cond} {rm : Room} {Qc : (Nat → Prop) → Array Value → State → Outcome → State → Prop} {mc ms : Nat} {cc : ByteArray} {maxL : Nat} {ret : Option FieldType} {av : List Value} {D : va_G} {cl : List vw_C} {tys : List (ClassId × FieldType)} {w : va_W} {Z : State → Prop} {sz : Nat}
    (hy : plainName y.cls = true) (hw : ws = Cond.code y cc maxL ret :: ws') (hlen : (lg_sl av).length ≤ maxL)
    (body : ∀ (p : Program) (e : Env) (s : State) (m : MethodId) (below : List Frame) (meth : Method) (c : Code) (ls : Array Slot) (A : Nat → Prop),
      p.tables.exec = Jvm.exec → c.code = cc → meth.sig.returnType = ret → (∀ w ∈ ws, w.before av.toArray s = true) → s.vm.findClass y.cls = some m.cls → meth.locks = false → c.maxLocals = maxL →
      (∀ q : Nat, s.heap.size ≤ q → A q) → va_P D cl w s.heap → va_K D cl tys s → va_D A w → va_S A s.heap s.heap [] → Z s → lv_has ls maxL (lv_args 0 av) →
      W p l e rm s m av.toArray below meth c s.heap [] 0 0 (MQ below (Qc A) av.toArray s mc ms A) (F0 m 0 ls [])) :
    Met l y ws rm (va_Pc av (se_Pre D cl tys w Z sz)) (Qc (va_A w sz)) mc ms (va_A w sz) := by
  refine Met.ofW (cc := cc) (maxL := maxL) (ret := ret) hy hw ?_
  intro p e s m args below meth c s₁ B hml hv
  obtain ⟨rfl, hsz, hP, hK, hD0, hZ⟩ := hv
  subst hsz
  have hl := lv_entry av (n := maxL) hlen
  rw [lg_entry_eq]
  exact body p e s m below meth c _ (va_A w s.heap.size) B.exec B.bytes B.returns (atoms_spec (ws := ws) B.pre) (findClass_of_methodNamed B.named) B.notSynchronized hml (fun q h => Or.inr h) hP hK hD0.self va_S.rf hZ hl
section SEA
variable {p : Program} {l : Launch} {e : Env} {R : Room} {s : State} {m : MethodId} {args : Array Value} {below : List Frame} {meth : Method} {c : Code} {H : Heap} {locs : List Loc} {cells slots : Nat} {Q : State → Prop}
variable {cc : ByteArray} {pc : Nat} {ls : Array Slot} {rest st0 : List Value} {a : Array Value} {A : Nat → Prop} {H0 : Heap} {D : va_G} {cl : List vw_C} {tys : List (ClassId × FieldType)} {w : va_W} {wf : se_G → va_W}
theorem se_fr (hD : va_D A w) (hS : va_S A H0 H locs) (hA : ∀ q : Nat, H0.size ≤ q → A q) : ∀ q, va_A w H.size q → A q := by
  intro q h
  rcases h with ⟨k, e, h⟩ | h
  · exact hD.2 k (q, e) h
  · exact hA q (Nat.le_trans hS.1 h)
theorem se_cv {val : se_G} (hr : va_Run p l e R s m args below meth c H locs cells slots 0 0 (F0 m pc ls st0) rest (se_Qv D cl tys wf val (va_A w H.size) a) (va_A w H.size)) (hD : va_D A w) (hS : va_S A H0 H locs) (hA : ∀ q : Nat, H0.size ≤ q → A q)
    (kk : ∀ (H1 : Heap) (locs1 : List Loc), va_P D cl (wf val) H1 → va_D A (wf val) → va_S A H0 H1 locs1 → W p l e R s m args below meth c H1 locs1 cells slots Q (F0 m (pc + 3) ls rest)) : W p l e R s m args below meth c H locs cells slots Q (F0 m pc ls st0) := by
  have hF := se_fr hD hS hA
  refine va_callv hr hS (fun q _ h => hF q h) hF (fun u t H1 locs1 ht hvm hp hB hz hk hS1 => ?_)
  subst hp
  obtain ⟨hP1, hK1, hD1⟩ := hB
  rw [ht] at hP1
  exact kk H1 locs1 hP1 (hD1.weaken (fun _ _ _ h => hF _ h)) hS1
theorem se_cvE {val : se_G} (hr : va_Run p l e R s m args below meth c H locs cells slots 0 0 (F0 m pc ls st0) rest (se_Qv D cl tys wf val (va_A w H.size) a) (va_A w H.size)) (hD : va_D A w) (hS : va_S A H0 H locs) (hA : ∀ q : Nat, H0.size ≤ q → A q)
    (kk : ∀ (u : se_G) (H1 : Heap) (locs1 : List Loc), u = val → va_P D cl (wf u) H1 → va_D A (wf u) → va_S A H0 H1 locs1 → W p l e R s m args below meth c H1 locs1 cells slots Q (F0 m (pc + 3) ls rest)) : W p l e R s m args below meth c H locs cells slots Q (F0 m pc ls st0) :=
  se_cv hr hD hS hA (fun H1 l1 q1 q2 q3 => kk val H1 l1 rfl q1 q2 q3)
theorem se_ci {val : Int32 × se_G} (hr : va_Run p l e R s m args below meth c H locs cells slots 0 0 (F0 m pc ls st0) rest (se_Qi D cl tys wf val (va_A w H.size) a) (va_A w H.size)) (hD : va_D A w) (hS : va_S A H0 H locs) (hA : ∀ q : Nat, H0.size ≤ q → A q)
    (kk : ∀ (H1 : Heap) (locs1 : List Loc), va_P D cl (wf val.2) H1 → va_D A (wf val.2) → va_S A H0 H1 locs1 → W p l e R s m args below meth c H1 locs1 cells slots Q (F0 m (pc + 3) ls (.int val.1 :: rest))) : W p l e R s m args below meth c H locs cells slots Q (F0 m pc ls st0) := by
  have hF := se_fr hD hS hA
  refine va_calli hr hS (fun q _ h => hF q h) hF (fun r u t H1 locs1 ht hvm hp hB hz hk hS1 => ?_)
  subst hp
  obtain ⟨hP1, hK1, hD1⟩ := hB
  rw [ht] at hP1
  exact kk H1 locs1 hP1 (hD1.weaken (fun _ _ _ h => hF _ h)) hS1
theorem se_ciE {val : Int32 × se_G} (hr : va_Run p l e R s m args below meth c H locs cells slots 0 0 (F0 m pc ls st0) rest (se_Qi D cl tys wf val (va_A w H.size) a) (va_A w H.size)) (hD : va_D A w) (hS : va_S A H0 H locs) (hA : ∀ q : Nat, H0.size ≤ q → A q)
    (kk : ∀ (r : Int32) (u : se_G) (H1 : Heap) (locs1 : List Loc), (r, u) = val → va_P D cl (wf u) H1 → va_D A (wf u) → va_S A H0 H1 locs1 → W p l e R s m args below meth c H1 locs1 cells slots Q (F0 m (pc + 3) ls (.int r :: rest))) : W p l e R s m args below meth c H locs cells slots Q (F0 m pc ls st0) :=
  se_ci hr hD hS hA (fun H1 l1 q1 q2 q3 => kk val.1 val.2 H1 l1 rfl q1 q2 q3)
theorem se_cp {r0 : Int32} {g0 : se_G} (hr : va_Run p l e R s m args below meth c H locs cells slots 0 0 (F0 m pc ls st0) rest (se_Qp D cl tys wf r0 g0 (va_A w H.size) a) (va_A w H.size)) (hD : va_D A w) (hS : va_S A H0 H locs) (hA : ∀ q : Nat, H0.size ≤ q → A q)
    (kk : ∀ (H1 : Heap) (locs1 : List Loc), va_P D cl (wf g0) H1 → va_D A (wf g0) → va_S A H0 H1 locs1 → W p l e R s m args below meth c H1 locs1 cells slots Q (F0 m (pc + 3) ls (.int r0 :: rest))) : W p l e R s m args below meth c H locs cells slots Q (F0 m pc ls st0) := by
  have hF := se_fr hD hS hA
  refine va_calli hr hS (fun q _ h => hF q h) hF (fun r u t H1 locs1 ht hvm hp hB hz hk hS1 => ?_)
  obtain ⟨rfl, rfl⟩ := hp
  obtain ⟨hP1, hK1, hD1⟩ := hB
  rw [ht] at hP1
  exact kk H1 locs1 hP1 (hD1.weaken (fun _ _ _ h => hF _ h)) hS1
theorem se_rv {u val : se_G} (hx : p.tables.exec = Jvm.exec) (hb : c.code = cc) (hr : meth.sig.returnType = none) (hlocks : meth.locks = false) (hK : va_K D cl tys s) (hP : va_P D cl (wf u) H) (hD : va_D A (wf u)) (hS : va_S A s.heap H locs) (hdg : decode cc pc = .ok (.return_, 1)) (he : u = val) :
    W p l e R s m args below meth c H locs cells slots (MQ below (se_Qv D cl tys wf val A) args s cells slots A) (F0 m pc ls []) :=
  W.vret hx hb hr (fun t ht hW => ⟨⟨u, rfl, he, by rw [ht]; exact hP, va_K.moved hW.alike hK, hD⟩, hS.F ht⟩) hS.2.2 hdg hlocks
theorem se_ri {r : Int32} {u : se_G} {val : Int32 × se_G} (hx : p.tables.exec = Jvm.exec) (hb : c.code = cc) (hr : meth.sig.returnType = some .int) (hlocks : meth.locks = false) (hK : va_K D cl tys s) (hP : va_P D cl (wf u) H) (hD : va_D A (wf u)) (hS : va_S A s.heap H locs) (hdg : decode cc pc = .ok (.ireturn, 1)) (he : (r, u) = val) :
    W p l e R s m args below meth c H locs cells slots (MQ below (se_Qi D cl tys wf val A) args s cells slots A) (F0 m pc ls [.int r]) :=
  W.iret hx hb hr (fun t ht hW => ⟨⟨r, u, rfl, he, by rw [ht]; exact hP, va_K.moved hW.alike hK, hD⟩, hS.F ht⟩) hS.2.2 hdg hlocks
theorem se_riz {ty : FieldType} {r : Int32} {u : se_G} {val : Int32 × se_G} (hx : p.tables.exec = Jvm.exec) (hb : c.code = cc) (hr : meth.sig.returnType = some ty) (hn : narrow ty (.int r) = .int r) (hlocks : meth.locks = false) (hK : va_K D cl tys s) (hP : va_P D cl (wf u) H) (hD : va_D A (wf u)) (hS : va_S A s.heap H locs) (hdg : decode cc pc = .ok (.ireturn, 1)) (he : (r, u) = val) :
    W p l e R s m args below meth c H locs cells slots (MQ below (se_Qi D cl tys wf val A) args s cells slots A) (F0 m pc ls [.int r]) :=
  W.zret hx hb hr hn (fun t ht hW => ⟨⟨r, u, rfl, he, by rw [ht]; exact hP, va_K.moved hW.alike hK, hD⟩, hS.F ht⟩) hS.2.2 hdg hlocks
theorem se_rp {r r0 : Int32} {g0 : se_G} (hx : p.tables.exec = Jvm.exec) (hb : c.code = cc) (hr : meth.sig.returnType = some .int) (hlocks : meth.locks = false) (hK : va_K D cl tys s) (hP : va_P D cl (wf g0) H) (hD : va_D A (wf g0)) (hS : va_S A s.heap H locs) (hdg : decode cc pc = .ok (.ireturn, 1)) (he : r = r0) :
    W p l e R s m args below meth c H locs cells slots (MQ below (se_Qp D cl tys wf r0 g0 A) args s cells slots A) (F0 m pc ls [.int r]) :=
  W.iret hx hb hr (fun t ht hW => ⟨⟨r, g0, rfl, ⟨he, rfl⟩, by rw [ht]; exact hP, va_K.moved hW.alike hK, hD⟩, hS.F ht⟩) hS.2.2 hdg hlocks
theorem se_rpz {ty : FieldType} {r r0 : Int32} {g0 : se_G} (hx : p.tables.exec = Jvm.exec) (hb : c.code = cc) (hr : meth.sig.returnType = some ty) (hn : narrow ty (.int r) = .int r) (hlocks : meth.locks = false) (hK : va_K D cl tys s) (hP : va_P D cl (wf g0) H) (hD : va_D A (wf g0)) (hS : va_S A s.heap H locs) (hdg : decode cc pc = .ok (.ireturn, 1)) (he : r = r0) :
    W p l e R s m args below meth c H locs cells slots (MQ below (se_Qp D cl tys wf r0 g0 A) args s cells slots A) (F0 m pc ls [.int r]) :=
  W.zret hx hb hr hn (fun t ht hW => ⟨⟨r, g0, rfl, ⟨he, rfl⟩, by rw [ht]; exact hP, va_K.moved hW.alike hK, hD⟩, hS.F ht⟩) hS.2.2 hdg hlocks
/-- a value that two roads leave on the stack -/
theorem se_join {v : Int32} {pcJ : Nat} {restJ : List Value} {g : JFrame} (h : (∀ z : Int32, z = v → W p l e R s m args below meth c H locs cells slots Q (F0 m pcJ ls (.int z :: restJ))) → W p l e R s m args below meth c H locs cells slots Q g) (k : W p l e R s m args below meth c H locs cells slots Q (F0 m pcJ ls (.int v :: restJ))) : W p l e R s m args below meth c H locs cells slots Q g :=
  h (fun z e => by rw [e]; exact k)
theorem se_joinH {v : Int32} {pcJ : Nat} {restJ : List Value} {g : JFrame} (h : (∀ (z : Int32) (H1 : Heap) (locs1 : List Loc), z = v → va_P D cl w H1 → va_D A w → va_S A H0 H1 locs1 → W p l e R s m args below meth c H1 locs1 cells slots Q (F0 m pcJ ls (.int z :: restJ))) → W p l e R s m args below meth c H locs cells slots Q g)
    (k : ∀ (H1 : Heap) (locs1 : List Loc), va_P D cl w H1 → va_D A w → va_S A H0 H1 locs1 → W p l e R s m args below meth c H1 locs1 cells slots Q (F0 m pcJ ls (.int v :: restJ))) : W p l e R s m args below meth c H locs cells slots Q g :=
  h (fun z H1 l1 e q1 q2 q3 => by rw [e]; exact k H1 l1 q1 q2 q3)
end SEA
/-- throwing methods: a triple (which exception, 0 none; the answer; the state) -/
def se_x (E : String) : Int32 := if E = "java/lang/IllegalArgumentException" then 1 else if E = "java/lang/IllegalStateException" then 2 else 3
def se_Xv (D : va_G) (cl : List vw_C) (tys : List (ClassId × FieldType)) (wf : se_G → va_W) (val : Int32 × Int32 × se_G) (A : Nat → Prop) : Array Value → State → Outcome → State → Prop := va_Qv (fun u : se_G => ((0 : Int32), (0 : Int32), u) = val) (se_At D cl tys wf A) A
def se_Xi (D : va_G) (cl : List vw_C) (tys : List (ClassId × FieldType)) (wf : se_G → va_W) (val : Int32 × Int32 × se_G) (A : Nat → Prop) : Array Value → State → Outcome → State → Prop := va_Qi (fun (r : Int32) (u : se_G) => ((0 : Int32), r, u) = val) (se_At D cl tys wf A) A

section SEB
variable {p : Program} {l : Launch} {e : Env} {R : Room} {s : State} {m : MethodId} {args : Array Value} {below : List Frame} {meth : Method} {c : Code} {H : Heap} {locs : List Loc} {cells slots : Nat} {Q : State → Prop}
variable {cc : ByteArray} {pc : Nat} {ls : Array Slot} {rest : List Value}
theorem se_swIn {x k : Int32} (hk : x = k) (hx : p.tables.exec = Jvm.exec) (hb : c.code = cc) {dflt lo hi : Int} {offs : Array Int} {len : Nat} (hdg : decode cc pc = .ok (.tableswitch dflt lo hi offs, len)) {off : Int} {tgt : Nat} (h1 : ¬ k.toInt < lo) (h2 : ¬ hi < k.toInt) (ho : offs[(k.toInt - lo).toNat]? = some off) (ht : (pc : Int) + off = (tgt : Int))
    (kk : W p l e R s m args below meth c H locs cells slots Q (F0 m tgt ls rest)) : W p l e R s m args below meth c H locs cells slots Q (F0 m pc ls (.int x :: rest)) := by
  subst hk
  exact lv_tableIn hx hb hdg h1 h2 ho ht kk
end SEB
theorem se_swOut {x : Int32} {L : List Int32} {N : Nat} {lo hi : Int} (hL : ∀ k ∈ L, ¬ x = k) (hc : L.map Int32.toInt = (List.range N).map Int.ofNat) (hlo : lo = 0) (hhi : hi = (N : Int) - 1) : x.toInt < lo ∨ hi < x.toInt := by
  subst hlo; subst hhi
  by_cases h0 : x.toInt < 0
  · exact Or.inl h0
  · by_cases h1 : (N : Int) - 1 < x.toInt
    · exact Or.inr h1
    · exfalso
      have h2 : x.toInt ∈ L.map Int32.toInt := by
        rw [hc]
        exact List.mem_map.mpr ⟨x.toInt.toNat, List.mem_range.mpr (by omega), Int.toNat_of_nonneg (by omega)⟩
      obtain ⟨k, hk, e⟩ := List.mem_map.mp h2
      exact hL k hk (Int32.toInt_inj.mp e).symm
theorem se_inc {lo hi : Int32} (c : ¬ hi ≤ lo) : (lo + 1).toInt = lo.toInt + 1 := by
  have h1 : lo.toInt < hi.toInt := by rw [Int32.le_iff_toInt_le] at c; omega
  have h2 := Int32.toInt_lt hi
  have h3 := Int32.le_toInt lo
  have h4 : (1 : Int32).toInt = 1 := by decide
  rw [Int32.toInt_add, h4, Int.bmod_def]
  split <;> omega
theorem se_dec {lo hi : Int32} {n : Nat} (c : ¬ hi ≤ lo) (h : (hi.toInt - lo.toInt).toNat < n + 1) : (hi.toInt - (lo + 1).toInt).toNat < n := by
  have h1 : lo.toInt < hi.toInt := by rw [Int32.le_iff_toInt_le] at c; omega
  rw [se_inc c]
  omega
theorem se_fuel (a b : Int) : (a - b).toNat < (a - b).toNat + 1 := Nat.lt_succ_self _
theorem se_nz {x : Int32} (h : x = 0 ∨ x = 1) : narrow .boolean (.int x) = .int x := by rcases h with rfl | rfl <;> rfl
theorem se_fz {x : Int32} (h : x = 0 ∨ x = 1) : fits .boolean (.int x) = true := by rcases h with rfl | rfl <;> rfl
theorem se_inN {x N : Int32} {n : Nat} (hN : N.toInt = n) (h0 : ¬ x < 0) (h1 : ¬ N ≤ x) : vp_in x n := by
  rw [vp_in_iff]
  rw [Int32.lt_iff_toInt_lt, Int32.toInt_zero] at h0
  rw [Int32.le_iff_toInt_le] at h1
  omega
theorem se_nn {x : Int32} (h : 0 ≤ x.toInt) : ¬ x < 0 := by rw [Int32.lt_iff_toInt_lt, Int32.toInt_zero]; omega
theorem se_inc0 {lo hi : Int32} (c : ¬ hi ≤ lo) (h : 0 ≤ lo.toInt) : 0 ≤ (lo + 1).toInt := by rw [se_inc c]; omega
theorem se_nle2 {x y N : Int32} (c : ¬ y ≤ x) (h : y.toInt ≤ N.toInt) : ¬ N ≤ x := by rw [Int32.le_iff_toInt_le] at c ⊢; omega
theorem se_max0 (x : Int32) : 0 ≤ (if 0 < x then x else 0).toInt := by
  split
  · rename_i h
    rw [Int32.lt_iff_toInt_lt, Int32.toInt_zero] at h
    omega
  · decide
theorem se_minle {x y : Int32} {n : Int} (h : y.toInt ≤ n) : (if x < y then x else y).toInt ≤ n := by
  split
  · rename_i q
    rw [Int32.lt_iff_toInt_lt] at q
    omega
  · exact h
theorem se_subS {L st : Int32} {n : Nat} (h : L.toInt.toNat < n + 1) (h1 : 1 ≤ st.toInt) (h2 : st.toInt ≤ L.toInt) : (L - st).toInt.toNat < n := by
  have h3 := Int32.toInt_lt L
  rw [Int32.toInt_sub, Int.bmod_def]
  split <;> omega
theorem se_decL {L T A : Int32} {n : Nat} (c : ¬ L ≤ 0) (h : L.toInt.toNat < n + 1) : (L - (if A = 0 then L else (if 1 < (if T < L then T else L) then (if T < L then T else L) else 1))).toInt.toNat < n := by
  have c0 : 0 < L.toInt := by rw [Int32.le_iff_toInt_le, Int32.toInt_zero] at c; omega
  have e1 : (1 : Int32).toInt = 1 := by decide
  have hM : (if T < L then T else L).toInt ≤ L.toInt := by
    split
    · rename_i q
      rw [Int32.lt_iff_toInt_lt] at q
      omega
    · omega
  generalize (if T < L then T else L) = M at hM ⊢
  refine se_subS h ?_ ?_
  · split
    · omega
    · split
      · rename_i q
        rw [Int32.lt_iff_toInt_lt, e1] at q
        omega
      · rw [e1]; omega
  · split
    · omega
    · split
      · exact hM
      · rw [e1]; omega
section SEC
variable {p : Program} {l : Launch} {e : Env} {R : Room} {s : State} {m : MethodId} {args : Array Value} {below : List Frame} {meth : Method} {c : Code} {H : Heap} {locs : List Loc} {cells slots : Nat} {Q : State → Prop}
variable {cc : ByteArray} {pc : Nat} {ls : Array Slot} {A : Nat → Prop} {D : va_G} {cl : List vw_C} {tys : List (ClassId × FieldType)} {wf : se_G → va_W}
theorem se_xv {u : se_G} {val : Int32 × Int32 × se_G} (hx : p.tables.exec = Jvm.exec) (hb : c.code = cc) (hr : meth.sig.returnType = none) (hlocks : meth.locks = false) (hK : va_K D cl tys s) (hP : va_P D cl (wf u) H) (hD : va_D A (wf u)) (hS : va_S A s.heap H locs) (hdg : decode cc pc = .ok (.return_, 1)) (he : ((0 : Int32), (0 : Int32), u) = val) :
    W p l e R s m args below meth c H locs cells slots (MQ below (se_Xv D cl tys wf val A) args s cells slots A) (F0 m pc ls []) :=
  W.vret hx hb hr (fun t ht hW => ⟨⟨u, rfl, he, by rw [ht]; exact hP, va_K.moved hW.alike hK, hD⟩, hS.F ht⟩) hS.2.2 hdg hlocks
theorem se_xi {r : Int32} {u : se_G} {val : Int32 × Int32 × se_G} (hx : p.tables.exec = Jvm.exec) (hb : c.code = cc) (hr : meth.sig.returnType = some .int) (hlocks : meth.locks = false) (hK : va_K D cl tys s) (hP : va_P D cl (wf u) H) (hD : va_D A (wf u)) (hS : va_S A s.heap H locs) (hdg : decode cc pc = .ok (.ireturn, 1)) (he : ((0 : Int32), r, u) = val) :
    W p l e R s m args below meth c H locs cells slots (MQ below (se_Xi D cl tys wf val A) args s cells slots A) (F0 m pc ls [.int r]) :=
  W.iret hx hb hr (fun t ht hW => ⟨⟨r, u, rfl, he, by rw [ht]; exact hP, va_K.moved hW.alike hK, hD⟩, hS.F ht⟩) hS.2.2 hdg hlocks
end SEC
theorem se_x1 : se_x "java/lang/IllegalArgumentException" = 1 := by decide
theorem se_x2 : se_x "java/lang/IllegalStateException" = 2 := by decide
theorem se_x3 : se_x "java/lang/IndexOutOfBoundsException" = 3 := by decide
theorem se_xe {E : String} {k : Int32} {u : se_G} {val : Int32 × Int32 × se_G} (h : se_x E = k) (he : (k, (0 : Int32), u) = val) : (se_x E, (0 : Int32), u) = val := by rw [h]; exact he
end
section
/-! written by program (wip/gen) -/
def RX0 : String := "StreamEnd$Due"
def TX0 : u_T := fun k => match k with
  | 0 => ("StreamEnd$Due", "reset", "Z", false)
  | 1 => ("StreamEnd$Due", "resetFlags", "I", false)
  | 2 => ("StreamEnd$Due", "resetNumber", "I", false)
  | 3 => ("StreamEnd$Due", "resetThanked", "I", false)
  | 4 => ("StreamEnd$Due", "open", "Z", false)
  | 5 => ("StreamEnd$Due", "openWasSent", "Z", false)
  | 6 => ("StreamEnd$Due", "again", "Z", false)
  | 7 => ("StreamEnd$Due", "probe", "Z", false)
  | _ => ("StreamEnd$Due", "thanks", "Z", false)
def tyX0 : Nat → FieldType := fun k => match k with
  | 0 => .boolean
  | 1 => .int
  | 2 => .int
  | 3 => .int
  | 4 => .boolean
  | 5 => .boolean
  | 6 => .boolean
  | 7 => .boolean
  | _ => .boolean
set_option maxRecDepth 20000 in
theorem nmX0 : ∀ a, a < 9 → ∀ b, b < 9 → a ≠ b → (TX0 a).2.1 ≠ (TX0 b).2.1 := by decide +kernel
theorem tyX0_ok : ∀ k, k < 9 → parseFieldDescriptor (TX0 k).2.2.1 = some (tyX0 k) := by decide +kernel
def RX1 : String := "StreamEnd$Incoming"
def TX1 : u_T := fun k => match k with
  | 0 => ("StreamEnd$Incoming", "row", "[I", true)
  | 1 => ("StreamEnd$Incoming", "opened", "Z", false)
  | 2 => ("StreamEnd$Incoming", "expected", "I", false)
  | 3 => ("StreamEnd$Incoming", "readable", "I", false)
  | 4 => ("StreamEnd$Incoming", "readNumber", "I", false)
  | 5 => ("StreamEnd$Incoming", "lastKnown", "Z", false)
  | 6 => ("StreamEnd$Incoming", "lastNumber", "I", false)
  | _ => ("StreamEnd$Incoming", "over", "Z", false)
def tyX1 : Nat → FieldType := fun k => match k with
  | 0 => .array .int
  | 1 => .boolean
  | 2 => .int
  | 3 => .int
  | 4 => .int
  | 5 => .boolean
  | 6 => .int
  | _ => .boolean
set_option maxRecDepth 20000 in
theorem nmX1 : ∀ a, a < 8 → ∀ b, b < 8 → a ≠ b → (TX1 a).2.1 ≠ (TX1 b).2.1 := by decide +kernel
theorem tyX1_ok : ∀ k, k < 8 → parseFieldDescriptor (TX1 k).2.2.1 = some (tyX1 k) := by decide +kernel
def RX2 : String := "StreamEnd$Outgoing"
def TX2 : u_T := fun k => match k with
  | 0 => ("StreamEnd$Outgoing", "row", "[B", true)
  | 1 => ("StreamEnd$Outgoing", "start", "I", false)
  | 2 => ("StreamEnd$Outgoing", "count", "I", false)
  | 3 => ("StreamEnd$Outgoing", "sent", "I", false)
  | 4 => ("StreamEnd$Outgoing", "first", "I", false)
  | 5 => ("StreamEnd$Outgoing", "oldest", "I", false)
  | 6 => ("StreamEnd$Outgoing", "next", "I", false)
  | 7 => ("StreamEnd$Outgoing", "closed", "Z", false)
  | 8 => ("StreamEnd$Outgoing", "lastSent", "Z", false)
  | 9 => ("StreamEnd$Outgoing", "piece", "I", false)
  | 10 => ("StreamEnd$Outgoing", "window", "I", false)
  | 11 => ("StreamEnd$Outgoing", "windowNumber", "I", false)
  | _ => ("StreamEnd$Outgoing", "windowThanked", "I", false)
def tyX2 : Nat → FieldType := fun k => match k with
  | 0 => .array .byte
  | 1 => .int
  | 2 => .int
  | 3 => .int
  | 4 => .int
  | 5 => .int
  | 6 => .int
  | 7 => .boolean
  | 8 => .boolean
  | 9 => .int
  | 10 => .int
  | 11 => .int
  | _ => .int
set_option maxRecDepth 20000 in
theorem nmX2 : ∀ a, a < 13 → ∀ b, b < 13 → a ≠ b → (TX2 a).2.1 ≠ (TX2 b).2.1 := by decide +kernel
theorem tyX2_ok : ∀ k, k < 13 → parseFieldDescriptor (TX2 k).2.2.1 = some (tyX2 k) := by decide +kernel
def RX3 : String := "StreamEnd$Segment"
def TX3 : u_T := fun k => match k with
  | 0 => ("StreamEnd$Segment", "bytes", "[B", true)
  | 1 => ("StreamEnd$Segment", "count", "I", false)
  | 2 => ("StreamEnd$Segment", "flags", "I", false)
  | 3 => ("StreamEnd$Segment", "number", "I", false)
  | 4 => ("StreamEnd$Segment", "thanked", "I", false)
  | 5 => ("StreamEnd$Segment", "window", "I", false)
  | _ => ("StreamEnd$Segment", "largest", "I", false)
def tyX3 : Nat → FieldType := fun k => match k with
  | 0 => .array .byte
  | 1 => .int
  | 2 => .int
  | 3 => .int
  | 4 => .int
  | 5 => .int
  | _ => .int
set_option maxRecDepth 20000 in
theorem nmX3 : ∀ a, a < 7 → ∀ b, b < 7 → a ≠ b → (TX3 a).2.1 ≠ (TX3 b).2.1 := by decide +kernel
theorem tyX3_ok : ∀ k, k < 7 → parseFieldDescriptor (TX3 k).2.2.1 = some (tyX3 k) := by decide +kernel
def RX4 : String := "StreamEnd$Watch"
def TX4 : u_T := fun k => match k with
  | 0 => ("StreamEnd$Watch", "time", "I", false)
  | 1 => ("StreamEnd$Watch", "alarmOn", "Z", false)
  | 2 => ("StreamEnd$Watch", "alarmAt", "I", false)
  | 3 => ("StreamEnd$Watch", "tries", "I", false)
  | 4 => ("StreamEnd$Watch", "wait", "I", false)
  | 5 => ("StreamEnd$Watch", "everMeasured", "Z", false)
  | 6 => ("StreamEnd$Watch", "smooth", "I", false)
  | 7 => ("StreamEnd$Watch", "spread", "I", false)
  | 8 => ("StreamEnd$Watch", "measuring", "Z", false)
  | 9 => ("StreamEnd$Watch", "measureNumber", "I", false)
  | _ => ("StreamEnd$Watch", "measureStart", "I", false)
def tyX4 : Nat → FieldType := fun k => match k with
  | 0 => .int
  | 1 => .boolean
  | 2 => .int
  | 3 => .int
  | 4 => .int
  | 5 => .boolean
  | 6 => .int
  | 7 => .int
  | 8 => .boolean
  | 9 => .int
  | _ => .int
set_option maxRecDepth 20000 in
theorem nmX4 : ∀ a, a < 11 → ∀ b, b < 11 → a ≠ b → (TX4 a).2.1 ≠ (TX4 b).2.1 := by decide +kernel
theorem tyX4_ok : ∀ k, k < 11 → parseFieldDescriptor (TX4 k).2.2.1 = some (tyX4 k) := by decide +kernel
def RX5 : String := "StreamEnd"
def TX5 : u_T := fun k => match k with
  | 0 => ("StreamEnd", "largest", "I", true)
  | 1 => ("StreamEnd", "quiet", "I", true)
  | 2 => ("StreamEnd", "out", "LStreamEnd$Outgoing;", true)
  | 3 => ("StreamEnd", "in", "LStreamEnd$Incoming;", true)
  | 4 => ("StreamEnd", "watch", "LStreamEnd$Watch;", true)
  | 5 => ("StreamEnd", "due", "LStreamEnd$Due;", true)
  | 6 => ("StreamEnd", "arriving", "LStreamEnd$Segment;", true)
  | 7 => ("StreamEnd", "made", "LStreamEnd$Segment;", true)
  | 8 => ("StreamEnd", "anyMade", "Z", false)
  | 9 => ("StreamEnd", "state", "I", false)
  | 10 => ("StreamEnd", "beganListening", "Z", false)
  | _ => ("StreamEnd", "quietEnd", "I", false)
def tyX5 : Nat → FieldType := fun k => match k with
  | 0 => .int
  | 1 => .int
  | 2 => .object "StreamEnd$Outgoing"
  | 3 => .object "StreamEnd$Incoming"
  | 4 => .object "StreamEnd$Watch"
  | 5 => .object "StreamEnd$Due"
  | 6 => .object "StreamEnd$Segment"
  | 7 => .object "StreamEnd$Segment"
  | 8 => .boolean
  | 9 => .int
  | 10 => .boolean
  | _ => .int
set_option maxRecDepth 20000 in
theorem nmX5 : ∀ a, a < 12 → ∀ b, b < 12 → a ≠ b → (TX5 a).2.1 ≠ (TX5 b).2.1 := by decide +kernel
theorem tyX5_ok : ∀ k, k < 12 → parseFieldDescriptor (TX5 k).2.2.1 = some (tyX5 k) := by decide +kernel
def RX6 : String := "StreamEndModel"
def TX6 : u_T := fun k => match k with
  | 0 => ("StreamEndModel", "ownLargest", "I", true)
  | 1 => ("StreamEndModel", "quietTime", "I", true)
  | 2 => ("StreamEndModel", "code", "I", false)
  | 3 => ("StreamEndModel", "time", "I", false)
  | 4 => ("StreamEndModel", "state", "I", false)
  | 5 => ("StreamEndModel", "listened", "Z", false)
  | 6 => ("StreamEndModel", "closed", "Z", false)
  | 7 => ("StreamEndModel", "heard", "Z", false)
  | 8 => ("StreamEndModel", "first", "I", false)
  | 9 => ("StreamEndModel", "oldest", "I", false)
  | 10 => ("StreamEndModel", "next", "I", false)
  | 11 => ("StreamEndModel", "piece", "I", false)
  | 12 => ("StreamEndModel", "out", "[I", true)
  | 13 => ("StreamEndModel", "outCount", "I", false)
  | 14 => ("StreamEndModel", "outAt", "I", false)
  | 15 => ("StreamEndModel", "window", "I", false)
  | 16 => ("StreamEndModel", "toldNumber", "I", false)
  | 17 => ("StreamEndModel", "toldThanked", "I", false)
  | 18 => ("StreamEndModel", "in", "[I", true)
  | 19 => ("StreamEndModel", "came", "[Z", true)
  | 20 => ("StreamEndModel", "have", "I", false)
  | 21 => ("StreamEndModel", "expected", "I", false)
  | 22 => ("StreamEndModel", "lastKnown", "Z", false)
  | 23 => ("StreamEndModel", "lastAt", "I", false)
  | 24 => ("StreamEndModel", "over", "Z", false)
  | 25 => ("StreamEndModel", "reset", "Z", false)
  | 26 => ("StreamEndModel", "resetFlags", "I", false)
  | 27 => ("StreamEndModel", "resetNumber", "I", false)
  | 28 => ("StreamEndModel", "resetThanked", "I", false)
  | 29 => ("StreamEndModel", "open", "Z", false)
  | 30 => ("StreamEndModel", "opened", "Z", false)
  | 31 => ("StreamEndModel", "again", "Z", false)
  | 32 => ("StreamEndModel", "probe", "Z", false)
  | 33 => ("StreamEndModel", "thank", "Z", false)
  | 34 => ("StreamEndModel", "alarm", "I", false)
  | 35 => ("StreamEndModel", "wait", "I", false)
  | 36 => ("StreamEndModel", "tries", "I", false)
  | 37 => ("StreamEndModel", "measures", "Z", false)
  | 38 => ("StreamEndModel", "measured", "I", false)
  | 39 => ("StreamEndModel", "measuredAt", "I", false)
  | 40 => ("StreamEndModel", "known", "Z", false)
  | 41 => ("StreamEndModel", "smooth", "I", false)
  | 42 => ("StreamEndModel", "spread", "I", false)
  | 43 => ("StreamEndModel", "quietUntil", "I", false)
  | 44 => ("StreamEndModel", "fed", "[I", true)
  | 45 => ("StreamEndModel", "fedCount", "I", false)
  | 46 => ("StreamEndModel", "made", "Z", false)
  | 47 => ("StreamEndModel", "figures", "[I", true)
  | 48 => ("StreamEndModel", "bytes", "[I", true)
  | _ => ("StreamEndModel", "byteCount", "I", false)
def tyX6 : Nat → FieldType := fun k => match k with
  | 0 => .int
  | 1 => .int
  | 2 => .int
  | 3 => .int
  | 4 => .int
  | 5 => .boolean
  | 6 => .boolean
  | 7 => .boolean
  | 8 => .int
  | 9 => .int
  | 10 => .int
  | 11 => .int
  | 12 => .array .int
  | 13 => .int
  | 14 => .int
  | 15 => .int
  | 16 => .int
  | 17 => .int
  | 18 => .array .int
  | 19 => .array .boolean
  | 20 => .int
  | 21 => .int
  | 22 => .boolean
  | 23 => .int
  | 24 => .boolean
  | 25 => .boolean
  | 26 => .int
  | 27 => .int
  | 28 => .int
  | 29 => .boolean
  | 30 => .boolean
  | 31 => .boolean
  | 32 => .boolean
  | 33 => .boolean
  | 34 => .int
  | 35 => .int
  | 36 => .int
  | 37 => .boolean
  | 38 => .int
  | 39 => .int
  | 40 => .boolean
  | 41 => .int
  | 42 => .int
  | 43 => .int
  | 44 => .array .int
  | 45 => .int
  | 46 => .boolean
  | 47 => .array .int
  | 48 => .array .int
  | _ => .int
set_option maxRecDepth 20000 in
theorem nmX6 : ∀ a, a < 50 → ∀ b, b < 50 → a ≠ b → (TX6 a).2.1 ≠ (TX6 b).2.1 := by decide +kernel
theorem tyX6_ok : ∀ k, k < 50 → parseFieldDescriptor (TX6 k).2.2.1 = some (tyX6 k) := by decide +kernel
def RXA : String := "java/util/Arrays"
def RXL : String := "StreamEndLaw"
abbrev cX5_init : ByteArray := prog_1_method_1_code
def yX5_init : MethodName := ⟨RX5, "<init>", "(II)V"⟩
abbrev cX2_init : ByteArray := prog_4_method_1_code
def yX2_init : MethodName := ⟨RX2, "<init>", "(I)V"⟩
abbrev cX1_init : ByteArray := prog_3_method_1_code
def yX1_init : MethodName := ⟨RX1, "<init>", "()V"⟩
abbrev cXA_fill : ByteArray := prog_17_method_103_code
def yXA_fill : MethodName := ⟨RXA, "fill", "([II)V"⟩
abbrev cX4_init : ByteArray := prog_6_method_1_code
def yX4_init : MethodName := ⟨RX4, "<init>", "()V"⟩
abbrev cX0_init : ByteArray := prog_2_method_1_code
def yX0_init : MethodName := ⟨RX0, "<init>", "()V"⟩
abbrev cX3_init : ByteArray := prog_5_method_1_code
def yX3_init : MethodName := ⟨RX3, "<init>", "()V"⟩
abbrev cX5_next : ByteArray := prog_1_method_8_code
def yX5_next : MethodName := ⟨RX5, "next", "()Z"⟩
abbrev cX5_makeReset : ByteArray := prog_1_method_31_code
def yX5_makeReset : MethodName := ⟨RX5, "makeReset", "()V"⟩
abbrev cX3_headIs : ByteArray := prog_5_method_2_code
def yX3_headIs : MethodName := ⟨RX3, "headIs", "(IIIII)V"⟩
abbrev cX3_has : ByteArray := prog_5_method_3_code
def yX3_has : MethodName := ⟨RX3, "has", "(I)Z"⟩
abbrev cX5_makeOpen : ByteArray := prog_1_method_32_code
def yX5_makeOpen : MethodName := ⟨RX5, "makeOpen", "()V"⟩
abbrev cX5_make : ByteArray := prog_1_method_36_code
def yX5_make : MethodName := ⟨RX5, "make", "(IIII)V"⟩
abbrev cX1_room : ByteArray := prog_3_method_4_code
def yX1_room : MethodName := ⟨RX1, "room", "()I"⟩
abbrev cX2_copyTo : ByteArray := prog_4_method_13_code
def yX2_copyTo : MethodName := ⟨RX2, "copyTo", "(LStreamEnd$Segment;II)V"⟩
abbrev cX3_append : ByteArray := prog_5_method_5_code
def yX3_append : MethodName := ⟨RX3, "append", "(B)V"⟩
abbrev cX4_measure : ByteArray := prog_6_method_7_code
def yX4_measure : MethodName := ⟨RX4, "measure", "(I)V"⟩
abbrev cX4_setAlarmIfOff : ByteArray := prog_6_method_4_code
def yX4_setAlarmIfOff : MethodName := ⟨RX4, "setAlarmIfOff", "()V"⟩
abbrev cX4_setAlarm : ByteArray := prog_6_method_3_code
def yX4_setAlarm : MethodName := ⟨RX4, "setAlarm", "()V"⟩
abbrev cX5_makeAgain : ByteArray := prog_1_method_33_code
def yX5_makeAgain : MethodName := ⟨RX5, "makeAgain", "()V"⟩
abbrev cX5_maySendNew : ByteArray := prog_1_method_21_code
def yX5_maySendNew : MethodName := ⟨RX5, "maySendNew", "()Z"⟩
abbrev cX2_maySend : ByteArray := prog_4_method_12_code
def yX2_maySend : MethodName := ⟨RX2, "maySend", "()Z"⟩
abbrev cX2_newBytes : ByteArray := prog_4_method_10_code
def yX2_newBytes : MethodName := ⟨RX2, "newBytes", "()I"⟩
abbrev cX2_unsent : ByteArray := prog_4_method_5_code
def yX2_unsent : MethodName := ⟨RX2, "unsent", "()I"⟩
abbrev cX2_allowed : ByteArray := prog_4_method_9_code
def yX2_allowed : MethodName := ⟨RX2, "allowed", "()I"⟩
abbrev cX2_newHasLast : ByteArray := prog_4_method_11_code
def yX2_newHasLast : MethodName := ⟨RX2, "newHasLast", "()Z"⟩
abbrev cX5_makeNew : ByteArray := prog_1_method_35_code
def yX5_makeNew : MethodName := ⟨RX5, "makeNew", "(IZ)V"⟩
abbrev cX2_wasSent : ByteArray := prog_4_method_14_code
def yX2_wasSent : MethodName := ⟨RX2, "wasSent", "(IZ)V"⟩
abbrev cX5_makeProbe : ByteArray := prog_1_method_34_code
def yX5_makeProbe : MethodName := ⟨RX5, "makeProbe", "()V"⟩
abbrev cX5_state : ByteArray := prog_1_method_13_code
def yX5_state : MethodName := ⟨RX5, "state", "()I"⟩
abbrev cXL_cell : ByteArray := method_2_code
def yXL_cell : MethodName := ⟨RXL, "cell", "([II)I"⟩
abbrev cXL_begin : ByteArray := method_3_code
def yXL_begin : MethodName := ⟨RXL, "begin", "(LStreamEnd;IZ)I"⟩
abbrev cX5_begin : ByteArray := prog_1_method_2_code
def yX5_begin : MethodName := ⟨RX5, "begin", "(IZ)V"⟩
abbrev cX5_isEnded : ByteArray := prog_1_method_20_code
def yX5_isEnded : MethodName := ⟨RX5, "isEnded", "()Z"⟩
abbrev cX5_startStream : ByteArray := prog_1_method_23_code
def yX5_startStream : MethodName := ⟨RX5, "startStream", "(IZ)V"⟩
abbrev cX2_restart : ByteArray := prog_4_method_2_code
def yX2_restart : MethodName := ⟨RX2, "restart", "(II)V"⟩
abbrev cX2_windowIs : ByteArray := prog_4_method_16_code
def yX2_windowIs : MethodName := ⟨RX2, "windowIs", "(III)V"⟩
abbrev cX1_restart : ByteArray := prog_3_method_2_code
def yX1_restart : MethodName := ⟨RX1, "restart", "()V"⟩
abbrev cX4_restart : ByteArray := prog_6_method_2_code
def yX4_restart : MethodName := ⟨RX4, "restart", "()V"⟩
abbrev cX0_restart : ByteArray := prog_2_method_2_code
def yX0_restart : MethodName := ⟨RX0, "restart", "()V"⟩
abbrev cX0_dropStream : ByteArray := prog_2_method_3_code
def yX0_dropStream : MethodName := ⟨RX0, "dropStream", "()V"⟩
abbrev cX5_openIsDue : ByteArray := prog_1_method_24_code
def yX5_openIsDue : MethodName := ⟨RX5, "openIsDue", "()V"⟩
abbrev cXL_write : ByteArray := method_4_code
def yXL_write : MethodName := ⟨RXL, "write", "(LStreamEnd;JI[J)I"⟩
abbrev cX5_write : ByteArray := prog_1_method_3_code
def yX5_write : MethodName := ⟨RX5, "write", "(JI)I"⟩
abbrev cX5_isHandful : ByteArray := prog_1_method_15_code
def yX5_isHandful : MethodName := ⟨RX5, "isHandful", "(I)Z"⟩
abbrev cX2_space : ByteArray := prog_4_method_3_code
def yX2_space : MethodName := ⟨RX2, "space", "()I"⟩
abbrev cX5_byteOf : ByteArray := prog_1_method_17_code
def yX5_byteOf : MethodName := ⟨RX5, "byteOf", "(JII)B"⟩
abbrev cX2_append : ByteArray := prog_4_method_4_code
def yX2_append : MethodName := ⟨RX2, "append", "(B)V"⟩
abbrev cX5_watchClosedWindow : ByteArray := prog_1_method_30_code
def yX5_watchClosedWindow : MethodName := ⟨RX5, "watchClosedWindow", "()V"⟩
abbrev cX2_hasUnthanked : ByteArray := prog_4_method_7_code
def yX2_hasUnthanked : MethodName := ⟨RX2, "hasUnthanked", "()Z"⟩
abbrev cX2_hasNew : ByteArray := prog_4_method_6_code
def yX2_hasNew : MethodName := ⟨RX2, "hasNew", "()Z"⟩
abbrev cXL_read : ByteArray := method_5_code
def yXL_read : MethodName := ⟨RXL, "read", "(LStreamEnd;[J)I"⟩
abbrev cX5_read : ByteArray := prog_1_method_4_code
def yX5_read : MethodName := ⟨RX5, "read", "()I"⟩
abbrev cX5_readByte : ByteArray := prog_1_method_27_code
def yX5_readByte : MethodName := ⟨RX5, "readByte", "()I"⟩
abbrev cX1_takeByte : ByteArray := prog_3_method_10_code
def yX1_takeByte : MethodName := ⟨RX1, "takeByte", "()I"⟩
abbrev cX5_mayTakeBytes : ByteArray := prog_1_method_22_code
def yX5_mayTakeBytes : MethodName := ⟨RX5, "mayTakeBytes", "()Z"⟩
abbrev cXL_close : ByteArray := method_6_code
def yXL_close : MethodName := ⟨RXL, "close", "(LStreamEnd;)I"⟩
abbrev cX5_close : ByteArray := prog_1_method_5_code
def yX5_close : MethodName := ⟨RX5, "close", "()V"⟩
abbrev cX5_halt : ByteArray := prog_1_method_25_code
def yX5_halt : MethodName := ⟨RX5, "halt", "(I)V"⟩
abbrev cX5_beginQuiet : ByteArray := prog_1_method_26_code
def yX5_beginQuiet : MethodName := ⟨RX5, "beginQuiet", "()V"⟩
abbrev cXL_abort : ByteArray := method_7_code
def yXL_abort : MethodName := ⟨RXL, "abort", "(LStreamEnd;)I"⟩
abbrev cX5_abort : ByteArray := prog_1_method_6_code
def yX5_abort : MethodName := ⟨RX5, "abort", "()V"⟩
abbrev cX0_resetIs : ByteArray := prog_2_method_4_code
def yX0_resetIs : MethodName := ⟨RX0, "resetIs", "(III)V"⟩
abbrev cXL_run : ByteArray := method_8_code
def yXL_run : MethodName := ⟨RXL, "run", "(LStreamEnd;I[J)I"⟩
abbrev cX5_run : ByteArray := prog_1_method_7_code
def yX5_run : MethodName := ⟨RX5, "run", "(I)I"⟩
abbrev cX4_ticksToAlarm : ByteArray := prog_6_method_5_code
def yX4_ticksToAlarm : MethodName := ⟨RX4, "ticksToAlarm", "()I"⟩
abbrev cX5_takeEvents : ByteArray := prog_1_method_28_code
def yX5_takeEvents : MethodName := ⟨RX5, "takeEvents", "()V"⟩
abbrev cX5_takeAlarm : ByteArray := prog_1_method_29_code
def yX5_takeAlarm : MethodName := ⟨RX5, "takeAlarm", "()V"⟩
abbrev cX4_doubleWait : ByteArray := prog_6_method_6_code
def yX4_doubleWait : MethodName := ⟨RX4, "doubleWait", "()V"⟩
abbrev cXL_segment : ByteArray := method_9_code
def yXL_segment : MethodName := ⟨RXL, "segment", "(LStreamEnd;I[J)I"⟩
abbrev cX5_segment : ByteArray := prog_1_method_9_code
def yX5_segment : MethodName := ⟨RX5, "segment", "(I)I"⟩
abbrev cXL_byteAt : ByteArray := method_10_code
def yXL_byteAt : MethodName := ⟨RXL, "byteAt", "(LStreamEnd;I[J)I"⟩
abbrev cX5_byteAt : ByteArray := prog_1_method_10_code
def yX5_byteAt : MethodName := ⟨RX5, "byteAt", "(I)I"⟩
abbrev cXL_feed : ByteArray := method_11_code
def yXL_feed : MethodName := ⟨RXL, "feed", "(LStreamEnd;JI[J)I"⟩
abbrev cX5_feed : ByteArray := prog_1_method_11_code
def yX5_feed : MethodName := ⟨RX5, "feed", "(JI)I"⟩
abbrev cXL_arrive : ByteArray := method_12_code
def yXL_arrive : MethodName := ⟨RXL, "arrive", "(LStreamEnd;IIIII[J)I"⟩
abbrev cX5_arrive : ByteArray := prog_1_method_12_code
def yX5_arrive : MethodName := ⟨RX5, "arrive", "(IIIII)I"⟩
abbrev cX5_isWidth : ByteArray := prog_1_method_16_code
def yX5_isWidth : MethodName := ⟨RX5, "isWidth", "(I)Z"⟩
abbrev cX5_takeSegment : ByteArray := prog_1_method_37_code
def yX5_takeSegment : MethodName := ⟨RX5, "takeSegment", "()V"⟩
abbrev cX5_answerWithReset : ByteArray := prog_1_method_38_code
def yX5_answerWithReset : MethodName := ⟨RX5, "answerWithReset", "()V"⟩
abbrev cX3_size : ByteArray := prog_5_method_4_code
def yX3_size : MethodName := ⟨RX3, "size", "()I"⟩
abbrev cX5_takeWhenListening : ByteArray := prog_1_method_39_code
def yX5_takeWhenListening : MethodName := ⟨RX5, "takeWhenListening", "()V"⟩
abbrev cX5_takeOpen : ByteArray := prog_1_method_41_code
def yX5_takeOpen : MethodName := ⟨RX5, "takeOpen", "()V"⟩
abbrev cX1_open : ByteArray := prog_3_method_3_code
def yX1_open : MethodName := ⟨RX1, "open", "(I)V"⟩
abbrev cX5_takeWhenAsking : ByteArray := prog_1_method_40_code
def yX5_takeWhenAsking : MethodName := ⟨RX5, "takeWhenAsking", "()V"⟩
abbrev cX5_takeThanked : ByteArray := prog_1_method_45_code
def yX5_takeThanked : MethodName := ⟨RX5, "takeThanked", "()V"⟩
abbrev cX2_thank : ByteArray := prog_4_method_15_code
def yX2_thank : MethodName := ⟨RX2, "thank", "(I)V"⟩
abbrev cX4_endMeasure : ByteArray := prog_6_method_8_code
def yX4_endMeasure : MethodName := ⟨RX4, "endMeasure", "(I)V"⟩
abbrev cX5_isNotBehind : ByteArray := prog_1_method_19_code
def yX5_isNotBehind : MethodName := ⟨RX5, "isNotBehind", "(II)Z"⟩
abbrev cX4_learn : ByteArray := prog_6_method_9_code
def yX4_learn : MethodName := ⟨RX4, "learn", "(I)V"⟩
abbrev cX1_fits : ByteArray := prog_3_method_5_code
def yX1_fits : MethodName := ⟨RX1, "fits", "(II)Z"⟩
abbrev cX5_takeMisfit : ByteArray := prog_1_method_42_code
def yX5_takeMisfit : MethodName := ⟨RX5, "takeMisfit", "()V"⟩
abbrev cX5_takeReset : ByteArray := prog_1_method_43_code
def yX5_takeReset : MethodName := ⟨RX5, "takeReset", "()V"⟩
abbrev cX5_takeInStream : ByteArray := prog_1_method_44_code
def yX5_takeInStream : MethodName := ⟨RX5, "takeInStream", "()V"⟩
abbrev cX5_isBefore : ByteArray := prog_1_method_18_code
def yX5_isBefore : MethodName := ⟨RX5, "isBefore", "(II)Z"⟩
abbrev cX5_takeWindow : ByteArray := prog_1_method_46_code
def yX5_takeWindow : MethodName := ⟨RX5, "takeWindow", "()V"⟩
abbrev cX2_windowIsOlderThan : ByteArray := prog_4_method_17_code
def yX2_windowIsOlderThan : MethodName := ⟨RX2, "windowIsOlderThan", "(LStreamEnd$Segment;)Z"⟩
abbrev cX2_lastIsThanked : ByteArray := prog_4_method_8_code
def yX2_lastIsThanked : MethodName := ⟨RX2, "lastIsThanked", "()Z"⟩
abbrev cX5_leave : ByteArray := prog_1_method_47_code
def yX5_leave : MethodName := ⟨RX5, "leave", "()V"⟩
abbrev cX5_takeBytes : ByteArray := prog_1_method_48_code
def yX5_takeBytes : MethodName := ⟨RX5, "takeBytes", "()V"⟩
abbrev cX1_store : ByteArray := prog_3_method_6_code
def yX1_store : MethodName := ⟨RX1, "store", "(LStreamEnd$Segment;)V"⟩
abbrev cX1_noteLast : ByteArray := prog_3_method_7_code
def yX1_noteLast : MethodName := ⟨RX1, "noteLast", "(I)V"⟩
abbrev cX1_goOn : ByteArray := prog_3_method_8_code
def yX1_goOn : MethodName := ⟨RX1, "goOn", "()V"⟩
abbrev cX1_isAtLast : ByteArray := prog_3_method_9_code
def yX1_isAtLast : MethodName := ⟨RX1, "isAtLast", "()Z"⟩
abbrev cX5_peerLeaves : ByteArray := prog_1_method_49_code
def yX5_peerLeaves : MethodName := ⟨RX5, "peerLeaves", "()V"⟩
abbrev cXL_figure : ByteArray := method_13_code
def yXL_figure : MethodName := ⟨RXL, "figure", "(LStreamEnd;I[J)I"⟩
abbrev cX5_figure : ByteArray := prog_1_method_14_code
def yX5_figure : MethodName := ⟨RX5, "figure", "(I)I"⟩
abbrev cX6_init : ByteArray := prog_8_method_1_code
def yX6_init : MethodName := ⟨RX6, "<init>", "(II)V"⟩
abbrev cX6_begin : ByteArray := prog_8_method_6_code
def yX6_begin : MethodName := ⟨RX6, "begin", "(IZ)V"⟩
abbrev cX6_clear : ByteArray := prog_8_method_3_code
def yX6_clear : MethodName := ⟨RX6, "clear", "(I)V"⟩
abbrev cX6_quiesce : ByteArray := prog_8_method_4_code
def yX6_quiesce : MethodName := ⟨RX6, "quiesce", "()V"⟩
abbrev cX6_write : ByteArray := prog_8_method_7_code
def yX6_write : MethodName := ⟨RX6, "write", "(JI)I"⟩
abbrev cX6_watch : ByteArray := prog_8_method_16_code
def yX6_watch : MethodName := ⟨RX6, "watch", "()V"⟩
abbrev cX6_sends : ByteArray := prog_8_method_13_code
def yX6_sends : MethodName := ⟨RX6, "sends", "()Z"⟩
abbrev cX6_unsent : ByteArray := prog_8_method_14_code
def yX6_unsent : MethodName := ⟨RX6, "unsent", "()I"⟩
abbrev cX6_owesLast : ByteArray := prog_8_method_15_code
def yX6_owesLast : MethodName := ⟨RX6, "owesLast", "()Z"⟩
abbrev cX6_read : ByteArray := prog_8_method_10_code
def yX6_read : MethodName := ⟨RX6, "read", "()I"⟩
abbrev cX6_isShort : ByteArray := prog_8_method_9_code
def yX6_isShort : MethodName := ⟨RX6, "isShort", "()Z"⟩
abbrev cX6_room : ByteArray := prog_8_method_8_code
def yX6_room : MethodName := ⟨RX6, "room", "()I"⟩
abbrev cX6_close : ByteArray := prog_8_method_11_code
def yX6_close : MethodName := ⟨RX6, "close", "()V"⟩
abbrev cX6_becomes : ByteArray := prog_8_method_5_code
def yX6_becomes : MethodName := ⟨RX6, "becomes", "(I)V"⟩
abbrev cX6_abort : ByteArray := prog_8_method_12_code
def yX6_abort : MethodName := ⟨RX6, "abort", "()V"⟩
abbrev cX6_run : ByteArray := prog_8_method_18_code
def yX6_run : MethodName := ⟨RX6, "run", "(I)I"⟩
abbrev cX6_ring : ByteArray := prog_8_method_17_code
def yX6_ring : MethodName := ⟨RX6, "ring", "()V"⟩
abbrev cX6_feed : ByteArray := prog_8_method_20_code
def yX6_feed : MethodName := ⟨RX6, "feed", "(JI)I"⟩
abbrev cX6_arrive : ByteArray := prog_8_method_34_code
def yX6_arrive : MethodName := ⟨RX6, "arrive", "(IIIII)I"⟩
abbrev cX6_resets : ByteArray := prog_8_method_22_code
def yX6_resets : MethodName := ⟨RX6, "resets", "(III)V"⟩
abbrev cX6_has : ByteArray := prog_8_method_21_code
def yX6_has : MethodName := ⟨RX6, "has", "(II)Z"⟩
abbrev cX6_size : ByteArray := prog_8_method_23_code
def yX6_size : MethodName := ⟨RX6, "size", "(I)I"⟩
abbrev cX6_toListening : ByteArray := prog_8_method_25_code
def yX6_toListening : MethodName := ⟨RX6, "toListening", "(IIIII)V"⟩
abbrev cX6_greet : ByteArray := prog_8_method_24_code
def yX6_greet : MethodName := ⟨RX6, "greet", "(IIIII)V"⟩
abbrev cX6_toAsking : ByteArray := prog_8_method_26_code
def yX6_toAsking : MethodName := ⟨RX6, "toAsking", "(IIIII)V"⟩
abbrev cX6_thanked : ByteArray := prog_8_method_27_code
def yX6_thanked : MethodName := ⟨RX6, "thanked", "(I)V"⟩
abbrev cX6_learn : ByteArray := prog_8_method_19_code
def yX6_learn : MethodName := ⟨RX6, "learn", "(I)V"⟩
abbrev cX6_toOthers : ByteArray := prog_8_method_30_code
def yX6_toOthers : MethodName := ⟨RX6, "toOthers", "(IIII)V"⟩
abbrev cX6_fits : ByteArray := prog_8_method_29_code
def yX6_fits : MethodName := ⟨RX6, "fits", "(II)Z"⟩
abbrev cX6_hitByReset : ByteArray := prog_8_method_31_code
def yX6_hitByReset : MethodName := ⟨RX6, "hitByReset", "(Z)V"⟩
abbrev cX6_tell : ByteArray := prog_8_method_28_code
def yX6_tell : MethodName := ⟨RX6, "tell", "(III)V"⟩
abbrev cX6_wasLast : ByteArray := prog_8_method_32_code
def yX6_wasLast : MethodName := ⟨RX6, "wasLast", "()Z"⟩
abbrev cX6_take : ByteArray := prog_8_method_33_code
def yX6_take : MethodName := ⟨RX6, "take", "(II)V"⟩
abbrev cX6_next : ByteArray := prog_8_method_42_code
def yX6_next : MethodName := ⟨RX6, "next", "()Z"⟩
abbrev cX6_make : ByteArray := prog_8_method_35_code
def yX6_make : MethodName := ⟨RX6, "make", "(IIIII)V"⟩
abbrev cX6_sendOpen : ByteArray := prog_8_method_38_code
def yX6_sendOpen : MethodName := ⟨RX6, "sendOpen", "()V"⟩
abbrev cX6_tellBytes : ByteArray := prog_8_method_36_code
def yX6_tellBytes : MethodName := ⟨RX6, "tellBytes", "(III)V"⟩
abbrev cX6_sent : ByteArray := prog_8_method_37_code
def yX6_sent : MethodName := ⟨RX6, "sent", "(IZ)V"⟩
abbrev cX6_sendAgain : ByteArray := prog_8_method_39_code
def yX6_sendAgain : MethodName := ⟨RX6, "sendAgain", "()V"⟩
abbrev cX6_sendFresh : ByteArray := prog_8_method_41_code
def yX6_sendFresh : MethodName := ⟨RX6, "sendFresh", "()Z"⟩
abbrev cX6_sendNew : ByteArray := prog_8_method_40_code
def yX6_sendNew : MethodName := ⟨RX6, "sendNew", "(IZ)V"⟩
abbrev cX6_segment : ByteArray := prog_8_method_43_code
def yX6_segment : MethodName := ⟨RX6, "segment", "(I)I"⟩
abbrev cX6_byteAt : ByteArray := prog_8_method_44_code
def yX6_byteAt : MethodName := ⟨RX6, "byteAt", "(I)I"⟩
abbrev cX6_state : ByteArray := prog_8_method_45_code
def yX6_state : MethodName := ⟨RX6, "state", "()I"⟩
abbrev cX6_figure : ByteArray := prog_8_method_46_code
def yX6_figure : MethodName := ⟨RX6, "figure", "(I)I"⟩
abbrev se_cl : List vw_C := [(RX0, TX0, 9), (RX1, TX1, 8), (RX2, TX2, 13), (RX3, TX3, 7), (RX4, TX4, 11), (RX5, TX5, 12), (RX6, TX6, 50)]
theorem qX5_f60 : (Jvm.Cond.fieldLink "StreamEnd" (60 : Nat) "StreamEnd" "state" "I") ∈ se_all := se_in 260 (by decide +kernel) (by decide +kernel)
theorem qX2_f56 : (Jvm.Cond.fieldLink "StreamEnd$Outgoing" (56 : Nat) "StreamEnd$Outgoing" "window" "I") ∈ se_all := se_in 48 (by decide +kernel) (by decide +kernel)
theorem qX2_f84 : (Jvm.Cond.fieldLink "StreamEnd$Outgoing" (84 : Nat) "StreamEnd$Outgoing" "windowNumber" "I") ∈ se_all := se_in 50 (by decide +kernel) (by decide +kernel)
theorem qX2_f87 : (Jvm.Cond.fieldLink "StreamEnd$Outgoing" (87 : Nat) "StreamEnd$Outgoing" "windowThanked" "I") ∈ se_all := se_in 51 (by decide +kernel) (by decide +kernel)
theorem qX2_f19 : (Jvm.Cond.fieldLink "StreamEnd$Outgoing" (19 : Nat) "StreamEnd$Outgoing" "start" "I") ∈ se_all := se_in 31 (by decide +kernel) (by decide +kernel)
theorem qX2_f22 : (Jvm.Cond.fieldLink "StreamEnd$Outgoing" (22 : Nat) "StreamEnd$Outgoing" "count" "I") ∈ se_all := se_in 32 (by decide +kernel) (by decide +kernel)
theorem qX2_f25 : (Jvm.Cond.fieldLink "StreamEnd$Outgoing" (25 : Nat) "StreamEnd$Outgoing" "sent" "I") ∈ se_all := se_in 34 (by decide +kernel) (by decide +kernel)
theorem qX2_f28 : (Jvm.Cond.fieldLink "StreamEnd$Outgoing" (28 : Nat) "StreamEnd$Outgoing" "first" "I") ∈ se_all := se_in 36 (by decide +kernel) (by decide +kernel)
theorem qX2_f31 : (Jvm.Cond.fieldLink "StreamEnd$Outgoing" (31 : Nat) "StreamEnd$Outgoing" "oldest" "I") ∈ se_all := se_in 38 (by decide +kernel) (by decide +kernel)
theorem qX2_f34 : (Jvm.Cond.fieldLink "StreamEnd$Outgoing" (34 : Nat) "StreamEnd$Outgoing" "next" "I") ∈ se_all := se_in 40 (by decide +kernel) (by decide +kernel)
theorem qX2_f37 : (Jvm.Cond.fieldLink "StreamEnd$Outgoing" (37 : Nat) "StreamEnd$Outgoing" "closed" "Z") ∈ se_all := se_in 42 (by decide +kernel) (by decide +kernel)
theorem qX2_f41 : (Jvm.Cond.fieldLink "StreamEnd$Outgoing" (41 : Nat) "StreamEnd$Outgoing" "lastSent" "Z") ∈ se_all := se_in 44 (by decide +kernel) (by decide +kernel)
theorem qX2_f15 : (Jvm.Cond.fieldLink "StreamEnd$Outgoing" (15 : Nat) "StreamEnd$Outgoing" "piece" "I") ∈ se_all := se_in 46 (by decide +kernel) (by decide +kernel)
theorem q_ini_StreamEnd_Outgoing : (Jvm.Cond.initialized "StreamEnd$Outgoing") ∈ se_all := se_in 2 (by decide +kernel) (by decide +kernel)
theorem q_code_X2_windowIs : (Jvm.Cond.code ({ cls := "StreamEnd$Outgoing", name := "windowIs", desc := "(III)V" } : Jvm.MethodName) prog_4_method_16_code (4 : Nat) (Option.none : Option Jvm.ClassFile.FieldType)) ∈ se_all := se_in 483 (by decide +kernel) (by decide +kernel)
theorem q_instanceMethod_X2_windowIs : (Jvm.Cond.instanceMethod ({ cls := "StreamEnd$Outgoing", name := "windowIs", desc := "(III)V" } : Jvm.MethodName)) ∈ se_all := se_in 482 (by decide +kernel) (by decide +kernel)
theorem qX2_m44 : (Jvm.Cond.methodLink "StreamEnd$Outgoing" (44 : Nat) ({ cls := "StreamEnd$Outgoing", name := "windowIs", desc := "(III)V" } : Jvm.MethodName)) ∈ se_all := se_in 480 (by decide +kernel) (by decide +kernel)
theorem qX1_f9 : (Jvm.Cond.fieldLink "StreamEnd$Incoming" (9 : Nat) "StreamEnd$Incoming" "row" "[I") ∈ se_all := se_in 89 (by decide +kernel) (by decide +kernel)
theorem q_ini_java_util_Arrays : (Jvm.Cond.initialized "java/util/Arrays") ∈ se_all := se_in 4 (by decide +kernel) (by decide +kernel)
theorem q_code_XA_fill : (Jvm.Cond.code ({ cls := "java/util/Arrays", name := "fill", desc := "([II)V" } : Jvm.MethodName) prog_17_method_103_code (4 : Nat) (Option.none : Option Jvm.ClassFile.FieldType)) ∈ se_all := se_in 88 (by decide +kernel) (by decide +kernel)
theorem q_static_XA_fill : (Jvm.Cond.static ({ cls := "java/util/Arrays", name := "fill", desc := "([II)V" } : Jvm.MethodName)) ∈ se_all := se_in 87 (by decide +kernel) (by decide +kernel)
theorem qX1_m15 : (Jvm.Cond.methodLink "StreamEnd$Incoming" (15 : Nat) ({ cls := "java/util/Arrays", name := "fill", desc := "([II)V" } : Jvm.MethodName)) ∈ se_all := se_in 86 (by decide +kernel) (by decide +kernel)
theorem qX1_f21 : (Jvm.Cond.fieldLink "StreamEnd$Incoming" (21 : Nat) "StreamEnd$Incoming" "opened" "Z") ∈ se_all := se_in 90 (by decide +kernel) (by decide +kernel)
theorem qX1_f25 : (Jvm.Cond.fieldLink "StreamEnd$Incoming" (25 : Nat) "StreamEnd$Incoming" "expected" "I") ∈ se_all := se_in 92 (by decide +kernel) (by decide +kernel)
theorem qX1_f29 : (Jvm.Cond.fieldLink "StreamEnd$Incoming" (29 : Nat) "StreamEnd$Incoming" "readable" "I") ∈ se_all := se_in 94 (by decide +kernel) (by decide +kernel)
theorem qX1_f32 : (Jvm.Cond.fieldLink "StreamEnd$Incoming" (32 : Nat) "StreamEnd$Incoming" "readNumber" "I") ∈ se_all := se_in 96 (by decide +kernel) (by decide +kernel)
theorem qX1_f35 : (Jvm.Cond.fieldLink "StreamEnd$Incoming" (35 : Nat) "StreamEnd$Incoming" "lastKnown" "Z") ∈ se_all := se_in 97 (by decide +kernel) (by decide +kernel)
theorem qX1_f38 : (Jvm.Cond.fieldLink "StreamEnd$Incoming" (38 : Nat) "StreamEnd$Incoming" "lastNumber" "I") ∈ se_all := se_in 98 (by decide +kernel) (by decide +kernel)
theorem qX1_f41 : (Jvm.Cond.fieldLink "StreamEnd$Incoming" (41 : Nat) "StreamEnd$Incoming" "over" "Z") ∈ se_all := se_in 99 (by decide +kernel) (by decide +kernel)
theorem qX4_f13 : (Jvm.Cond.fieldLink "StreamEnd$Watch" (13 : Nat) "StreamEnd$Watch" "alarmOn" "Z") ∈ se_all := se_in 127 (by decide +kernel) (by decide +kernel)
theorem qX4_f17 : (Jvm.Cond.fieldLink "StreamEnd$Watch" (17 : Nat) "StreamEnd$Watch" "alarmAt" "I") ∈ se_all := se_in 129 (by decide +kernel) (by decide +kernel)
theorem qX4_f20 : (Jvm.Cond.fieldLink "StreamEnd$Watch" (20 : Nat) "StreamEnd$Watch" "tries" "I") ∈ se_all := se_in 131 (by decide +kernel) (by decide +kernel)
theorem qX4_f9 : (Jvm.Cond.fieldLink "StreamEnd$Watch" (9 : Nat) "StreamEnd$Watch" "wait" "I") ∈ se_all := se_in 133 (by decide +kernel) (by decide +kernel)
theorem qX4_f23 : (Jvm.Cond.fieldLink "StreamEnd$Watch" (23 : Nat) "StreamEnd$Watch" "everMeasured" "Z") ∈ se_all := se_in 135 (by decide +kernel) (by decide +kernel)
theorem qX4_f26 : (Jvm.Cond.fieldLink "StreamEnd$Watch" (26 : Nat) "StreamEnd$Watch" "smooth" "I") ∈ se_all := se_in 136 (by decide +kernel) (by decide +kernel)
theorem qX4_f29 : (Jvm.Cond.fieldLink "StreamEnd$Watch" (29 : Nat) "StreamEnd$Watch" "spread" "I") ∈ se_all := se_in 138 (by decide +kernel) (by decide +kernel)
theorem qX4_f32 : (Jvm.Cond.fieldLink "StreamEnd$Watch" (32 : Nat) "StreamEnd$Watch" "measuring" "Z") ∈ se_all := se_in 140 (by decide +kernel) (by decide +kernel)
theorem qX4_f35 : (Jvm.Cond.fieldLink "StreamEnd$Watch" (35 : Nat) "StreamEnd$Watch" "measureNumber" "I") ∈ se_all := se_in 142 (by decide +kernel) (by decide +kernel)
theorem qX4_f38 : (Jvm.Cond.fieldLink "StreamEnd$Watch" (38 : Nat) "StreamEnd$Watch" "measureStart" "I") ∈ se_all := se_in 143 (by decide +kernel) (by decide +kernel)
theorem qX0_f19 : (Jvm.Cond.fieldLink "StreamEnd$Due" (19 : Nat) "StreamEnd$Due" "open" "Z") ∈ se_all := se_in 181 (by decide +kernel) (by decide +kernel)
theorem qX0_f22 : (Jvm.Cond.fieldLink "StreamEnd$Due" (22 : Nat) "StreamEnd$Due" "again" "Z") ∈ se_all := se_in 185 (by decide +kernel) (by decide +kernel)
theorem qX0_f25 : (Jvm.Cond.fieldLink "StreamEnd$Due" (25 : Nat) "StreamEnd$Due" "probe" "Z") ∈ se_all := se_in 187 (by decide +kernel) (by decide +kernel)
theorem q_ini_StreamEnd_Due : (Jvm.Cond.initialized "StreamEnd$Due") ∈ se_all := se_in 6 (by decide +kernel) (by decide +kernel)
theorem q_code_X0_dropStream : (Jvm.Cond.code ({ cls := "StreamEnd$Due", name := "dropStream", desc := "()V" } : Jvm.MethodName) prog_2_method_3_code (1 : Nat) (Option.none : Option Jvm.ClassFile.FieldType)) ∈ se_all := se_in 499 (by decide +kernel) (by decide +kernel)
theorem q_instanceMethod_X0_dropStream : (Jvm.Cond.instanceMethod ({ cls := "StreamEnd$Due", name := "dropStream", desc := "()V" } : Jvm.MethodName)) ∈ se_all := se_in 498 (by decide +kernel) (by decide +kernel)
theorem qX0_m7 : (Jvm.Cond.methodLink "StreamEnd$Due" (7 : Nat) ({ cls := "StreamEnd$Due", name := "dropStream", desc := "()V" } : Jvm.MethodName)) ∈ se_all := se_in 496 (by decide +kernel) (by decide +kernel)
theorem qX0_f12 : (Jvm.Cond.fieldLink "StreamEnd$Due" (12 : Nat) "StreamEnd$Due" "openWasSent" "Z") ∈ se_all := se_in 183 (by decide +kernel) (by decide +kernel)
theorem qX0_f16 : (Jvm.Cond.fieldLink "StreamEnd$Due" (16 : Nat) "StreamEnd$Due" "thanks" "Z") ∈ se_all := se_in 189 (by decide +kernel) (by decide +kernel)
theorem qX5_f21 : (Jvm.Cond.fieldLink "StreamEnd" (21 : Nat) "StreamEnd" "out" "LStreamEnd$Outgoing;") ∈ se_all := se_in 253 (by decide +kernel) (by decide +kernel)
theorem qX5_f42 : (Jvm.Cond.fieldLink "StreamEnd" (42 : Nat) "StreamEnd" "due" "LStreamEnd$Due;") ∈ se_all := se_in 256 (by decide +kernel) (by decide +kernel)
theorem qX5_f9 : (Jvm.Cond.fieldLink "StreamEnd" (9 : Nat) "StreamEnd" "largest" "I") ∈ se_all := se_in 251 (by decide +kernel) (by decide +kernel)
theorem q_code_X2_restart : (Jvm.Cond.code ({ cls := "StreamEnd$Outgoing", name := "restart", desc := "(II)V" } : Jvm.MethodName) prog_4_method_2_code (3 : Nat) (Option.none : Option Jvm.ClassFile.FieldType)) ∈ se_all := se_in 479 (by decide +kernel) (by decide +kernel)
theorem q_instanceMethod_X2_restart : (Jvm.Cond.instanceMethod ({ cls := "StreamEnd$Outgoing", name := "restart", desc := "(II)V" } : Jvm.MethodName)) ∈ se_all := se_in 478 (by decide +kernel) (by decide +kernel)
theorem qX5_f28 : (Jvm.Cond.fieldLink "StreamEnd" (28 : Nat) "StreamEnd" "in" "LStreamEnd$Incoming;") ∈ se_all := se_in 254 (by decide +kernel) (by decide +kernel)
theorem q_ini_StreamEnd_Incoming : (Jvm.Cond.initialized "StreamEnd$Incoming") ∈ se_all := se_in 3 (by decide +kernel) (by decide +kernel)
theorem q_code_X1_restart : (Jvm.Cond.code ({ cls := "StreamEnd$Incoming", name := "restart", desc := "()V" } : Jvm.MethodName) prog_3_method_2_code (1 : Nat) (Option.none : Option Jvm.ClassFile.FieldType)) ∈ se_all := se_in 487 (by decide +kernel) (by decide +kernel)
theorem q_instanceMethod_X1_restart : (Jvm.Cond.instanceMethod ({ cls := "StreamEnd$Incoming", name := "restart", desc := "()V" } : Jvm.MethodName)) ∈ se_all := se_in 486 (by decide +kernel) (by decide +kernel)
theorem qX5_f35 : (Jvm.Cond.fieldLink "StreamEnd" (35 : Nat) "StreamEnd" "watch" "LStreamEnd$Watch;") ∈ se_all := se_in 255 (by decide +kernel) (by decide +kernel)
theorem q_ini_StreamEnd_Watch : (Jvm.Cond.initialized "StreamEnd$Watch") ∈ se_all := se_in 5 (by decide +kernel) (by decide +kernel)
theorem q_code_X4_restart : (Jvm.Cond.code ({ cls := "StreamEnd$Watch", name := "restart", desc := "()V" } : Jvm.MethodName) prog_6_method_2_code (1 : Nat) (Option.none : Option Jvm.ClassFile.FieldType)) ∈ se_all := se_in 491 (by decide +kernel) (by decide +kernel)
theorem q_instanceMethod_X4_restart : (Jvm.Cond.instanceMethod ({ cls := "StreamEnd$Watch", name := "restart", desc := "()V" } : Jvm.MethodName)) ∈ se_all := se_in 490 (by decide +kernel) (by decide +kernel)
theorem q_code_X0_restart : (Jvm.Cond.code ({ cls := "StreamEnd$Due", name := "restart", desc := "()V" } : Jvm.MethodName) prog_2_method_2_code (1 : Nat) (Option.none : Option Jvm.ClassFile.FieldType)) ∈ se_all := se_in 495 (by decide +kernel) (by decide +kernel)
theorem q_instanceMethod_X0_restart : (Jvm.Cond.instanceMethod ({ cls := "StreamEnd$Due", name := "restart", desc := "()V" } : Jvm.MethodName)) ∈ se_all := se_in 494 (by decide +kernel) (by decide +kernel)
theorem qX5_f63 : (Jvm.Cond.fieldLink "StreamEnd" (63 : Nat) "StreamEnd" "beganListening" "Z") ∈ se_all := se_in 261 (by decide +kernel) (by decide +kernel)
theorem q_ini_StreamEnd : (Jvm.Cond.initialized "StreamEnd") ∈ se_all := se_in 1 (by decide +kernel) (by decide +kernel)
theorem q_code_X5_openIsDue : (Jvm.Cond.code ({ cls := "StreamEnd", name := "openIsDue", desc := "()V" } : Jvm.MethodName) prog_1_method_24_code (1 : Nat) (Option.none : Option Jvm.ClassFile.FieldType)) ∈ se_all := se_in 503 (by decide +kernel) (by decide +kernel)
theorem q_instanceMethod_X5_openIsDue : (Jvm.Cond.instanceMethod ({ cls := "StreamEnd", name := "openIsDue", desc := "()V" } : Jvm.MethodName)) ∈ se_all := se_in 502 (by decide +kernel) (by decide +kernel)
theorem qX5_m293 : (Jvm.Cond.methodLink "StreamEnd" (293 : Nat) ({ cls := "StreamEnd", name := "openIsDue", desc := "()V" } : Jvm.MethodName)) ∈ se_all := se_in 500 (by decide +kernel) (by decide +kernel)
theorem q_code_X2_unsent : (Jvm.Cond.code ({ cls := "StreamEnd$Outgoing", name := "unsent", desc := "()I" } : Jvm.MethodName) prog_4_method_5_code (1 : Nat) (Option.some Jvm.ClassFile.FieldType.int)) ∈ se_all := se_in 358 (by decide +kernel) (by decide +kernel)
theorem q_instanceMethod_X2_unsent : (Jvm.Cond.instanceMethod ({ cls := "StreamEnd$Outgoing", name := "unsent", desc := "()I" } : Jvm.MethodName)) ∈ se_all := se_in 357 (by decide +kernel) (by decide +kernel)
theorem qX2_m48 : (Jvm.Cond.methodLink "StreamEnd$Outgoing" (48 : Nat) ({ cls := "StreamEnd$Outgoing", name := "unsent", desc := "()I" } : Jvm.MethodName)) ∈ se_all := se_in 355 (by decide +kernel) (by decide +kernel)
theorem qX4_f41 : (Jvm.Cond.fieldLink "StreamEnd$Watch" (41 : Nat) "StreamEnd$Watch" "time" "I") ∈ se_all := se_in 125 (by decide +kernel) (by decide +kernel)
theorem q_code_X5_maySendNew : (Jvm.Cond.code ({ cls := "StreamEnd", name := "maySendNew", desc := "()Z" } : Jvm.MethodName) prog_1_method_21_code (1 : Nat) (Option.some Jvm.ClassFile.FieldType.boolean)) ∈ se_all := se_in 346 (by decide +kernel) (by decide +kernel)
theorem q_instanceMethod_X5_maySendNew : (Jvm.Cond.instanceMethod ({ cls := "StreamEnd", name := "maySendNew", desc := "()Z" } : Jvm.MethodName)) ∈ se_all := se_in 345 (by decide +kernel) (by decide +kernel)
theorem qX5_m185 : (Jvm.Cond.methodLink "StreamEnd" (185 : Nat) ({ cls := "StreamEnd", name := "maySendNew", desc := "()Z" } : Jvm.MethodName)) ∈ se_all := se_in 343 (by decide +kernel) (by decide +kernel)
theorem q_code_X2_hasUnthanked : (Jvm.Cond.code ({ cls := "StreamEnd$Outgoing", name := "hasUnthanked", desc := "()Z" } : Jvm.MethodName) prog_4_method_7_code (1 : Nat) (Option.some Jvm.ClassFile.FieldType.boolean)) ∈ se_all := se_in 550 (by decide +kernel) (by decide +kernel)
theorem q_instanceMethod_X2_hasUnthanked : (Jvm.Cond.instanceMethod ({ cls := "StreamEnd$Outgoing", name := "hasUnthanked", desc := "()Z" } : Jvm.MethodName)) ∈ se_all := se_in 549 (by decide +kernel) (by decide +kernel)
theorem q_code_X2_hasNew : (Jvm.Cond.code ({ cls := "StreamEnd$Outgoing", name := "hasNew", desc := "()Z" } : Jvm.MethodName) prog_4_method_6_code (1 : Nat) (Option.some Jvm.ClassFile.FieldType.boolean)) ∈ se_all := se_in 554 (by decide +kernel) (by decide +kernel)
theorem q_instanceMethod_X2_hasNew : (Jvm.Cond.instanceMethod ({ cls := "StreamEnd$Outgoing", name := "hasNew", desc := "()Z" } : Jvm.MethodName)) ∈ se_all := se_in 553 (by decide +kernel) (by decide +kernel)
theorem q_code_X4_setAlarm : (Jvm.Cond.code ({ cls := "StreamEnd$Watch", name := "setAlarm", desc := "()V" } : Jvm.MethodName) prog_6_method_3_code (1 : Nat) (Option.none : Option Jvm.ClassFile.FieldType)) ∈ se_all := se_in 335 (by decide +kernel) (by decide +kernel)
theorem q_instanceMethod_X4_setAlarm : (Jvm.Cond.instanceMethod ({ cls := "StreamEnd$Watch", name := "setAlarm", desc := "()V" } : Jvm.MethodName)) ∈ se_all := se_in 334 (by decide +kernel) (by decide +kernel)
theorem qX2_f9 : (Jvm.Cond.fieldLink "StreamEnd$Outgoing" (9 : Nat) "StreamEnd$Outgoing" "row" "[B") ∈ se_all := se_in 30 (by decide +kernel) (by decide +kernel)
theorem qX5_m102 : (Jvm.Cond.methodLink "StreamEnd" (102 : Nat) ({ cls := "java/lang/Math", name := "min", desc := "(II)I" } : Jvm.MethodName)) ∈ se_all := se_in 340 (by decide +kernel) (by decide +kernel)
theorem q_static_Math_min : (Jvm.Cond.static ({ cls := "java/lang/Math", name := "min", desc := "(II)I" } : Jvm.MethodName)) ∈ se_all := se_in 341 (by decide +kernel) (by decide +kernel)
theorem q_code_Math_min : (Jvm.Cond.code ({ cls := "java/lang/Math", name := "min", desc := "(II)I" } : Jvm.MethodName) prog_13_method_69_code (2 : Nat) (Option.some Jvm.ClassFile.FieldType.int)) ∈ se_all := se_in 342 (by decide +kernel) (by decide +kernel)
theorem q_ini_java_lang_Math : (Jvm.Cond.initialized "java/lang/Math") ∈ se_all := se_in 14 (by decide +kernel) (by decide +kernel)
theorem q_code_X1_room : (Jvm.Cond.code ({ cls := "StreamEnd$Incoming", name := "room", desc := "()I" } : Jvm.MethodName) prog_3_method_4_code (1 : Nat) (Option.some Jvm.ClassFile.FieldType.int)) ∈ se_all := se_in 315 (by decide +kernel) (by decide +kernel)
theorem q_instanceMethod_X1_room : (Jvm.Cond.instanceMethod ({ cls := "StreamEnd$Incoming", name := "room", desc := "()I" } : Jvm.MethodName)) ∈ se_all := se_in 314 (by decide +kernel) (by decide +kernel)
theorem q_code_X1_takeByte : (Jvm.Cond.code ({ cls := "StreamEnd$Incoming", name := "takeByte", desc := "()I" } : Jvm.MethodName) prog_3_method_10_code (3 : Nat) (Option.some Jvm.ClassFile.FieldType.int)) ∈ se_all := se_in 570 (by decide +kernel) (by decide +kernel)
theorem q_instanceMethod_X1_takeByte : (Jvm.Cond.instanceMethod ({ cls := "StreamEnd$Incoming", name := "takeByte", desc := "()I" } : Jvm.MethodName)) ∈ se_all := se_in 569 (by decide +kernel) (by decide +kernel)
theorem q_code_X5_mayTakeBytes : (Jvm.Cond.code ({ cls := "StreamEnd", name := "mayTakeBytes", desc := "()Z" } : Jvm.MethodName) prog_1_method_22_code (1 : Nat) (Option.some Jvm.ClassFile.FieldType.boolean)) ∈ se_all := se_in 574 (by decide +kernel) (by decide +kernel)
theorem q_instanceMethod_X5_mayTakeBytes : (Jvm.Cond.instanceMethod ({ cls := "StreamEnd", name := "mayTakeBytes", desc := "()Z" } : Jvm.MethodName)) ∈ se_all := se_in 573 (by decide +kernel) (by decide +kernel)
theorem qX5_m308 : (Jvm.Cond.methodLink "StreamEnd" (308 : Nat) ({ cls := "StreamEnd", name := "mayTakeBytes", desc := "()Z" } : Jvm.MethodName)) ∈ se_all := se_in 571 (by decide +kernel) (by decide +kernel)
theorem qX5_f13 : (Jvm.Cond.fieldLink "StreamEnd" (13 : Nat) "StreamEnd" "quiet" "I") ∈ se_all := se_in 252 (by decide +kernel) (by decide +kernel)
theorem qX5_f66 : (Jvm.Cond.fieldLink "StreamEnd" (66 : Nat) "StreamEnd" "quietEnd" "I") ∈ se_all := se_in 262 (by decide +kernel) (by decide +kernel)
theorem q_code_X5_beginQuiet : (Jvm.Cond.code ({ cls := "StreamEnd", name := "beginQuiet", desc := "()V" } : Jvm.MethodName) prog_1_method_26_code (1 : Nat) (Option.none : Option Jvm.ClassFile.FieldType)) ∈ se_all := se_in 592 (by decide +kernel) (by decide +kernel)
theorem q_instanceMethod_X5_beginQuiet : (Jvm.Cond.instanceMethod ({ cls := "StreamEnd", name := "beginQuiet", desc := "()V" } : Jvm.MethodName)) ∈ se_all := se_in 591 (by decide +kernel) (by decide +kernel)
theorem qX5_m302 : (Jvm.Cond.methodLink "StreamEnd" (302 : Nat) ({ cls := "StreamEnd", name := "beginQuiet", desc := "()V" } : Jvm.MethodName)) ∈ se_all := se_in 589 (by decide +kernel) (by decide +kernel)
theorem qX0_f28 : (Jvm.Cond.fieldLink "StreamEnd$Due" (28 : Nat) "StreamEnd$Due" "reset" "Z") ∈ se_all := se_in 173 (by decide +kernel) (by decide +kernel)
theorem qX0_f31 : (Jvm.Cond.fieldLink "StreamEnd$Due" (31 : Nat) "StreamEnd$Due" "resetFlags" "I") ∈ se_all := se_in 175 (by decide +kernel) (by decide +kernel)
theorem qX0_f35 : (Jvm.Cond.fieldLink "StreamEnd$Due" (35 : Nat) "StreamEnd$Due" "resetNumber" "I") ∈ se_all := se_in 177 (by decide +kernel) (by decide +kernel)
theorem qX0_f38 : (Jvm.Cond.fieldLink "StreamEnd$Due" (38 : Nat) "StreamEnd$Due" "resetThanked" "I") ∈ se_all := se_in 179 (by decide +kernel) (by decide +kernel)
theorem qX4_m47 : (Jvm.Cond.methodLink "StreamEnd$Watch" (47 : Nat) ({ cls := "java/lang/Math", name := "min", desc := "(II)I" } : Jvm.MethodName)) ∈ se_all := se_in 632 (by decide +kernel) (by decide +kernel)
theorem q_code_X4_doubleWait : (Jvm.Cond.code ({ cls := "StreamEnd$Watch", name := "doubleWait", desc := "()V" } : Jvm.MethodName) prog_6_method_6_code (1 : Nat) (Option.none : Option Jvm.ClassFile.FieldType)) ∈ se_all := se_in 631 (by decide +kernel) (by decide +kernel)
theorem q_instanceMethod_X4_doubleWait : (Jvm.Cond.instanceMethod ({ cls := "StreamEnd$Watch", name := "doubleWait", desc := "()V" } : Jvm.MethodName)) ∈ se_all := se_in 630 (by decide +kernel) (by decide +kernel)
theorem q_code_X5_halt : (Jvm.Cond.code ({ cls := "StreamEnd", name := "halt", desc := "(I)V" } : Jvm.MethodName) prog_1_method_25_code (2 : Nat) (Option.none : Option Jvm.ClassFile.FieldType)) ∈ se_all := se_in 587 (by decide +kernel) (by decide +kernel)
theorem q_instanceMethod_X5_halt : (Jvm.Cond.instanceMethod ({ cls := "StreamEnd", name := "halt", desc := "(I)V" } : Jvm.MethodName)) ∈ se_all := se_in 586 (by decide +kernel) (by decide +kernel)
theorem qX5_m132 : (Jvm.Cond.methodLink "StreamEnd" (132 : Nat) ({ cls := "StreamEnd", name := "halt", desc := "(I)V" } : Jvm.MethodName)) ∈ se_all := se_in 584 (by decide +kernel) (by decide +kernel)
theorem q_code_X5_takeAlarm : (Jvm.Cond.code ({ cls := "StreamEnd", name := "takeAlarm", desc := "()V" } : Jvm.MethodName) prog_1_method_29_code (1 : Nat) (Option.none : Option Jvm.ClassFile.FieldType)) ∈ se_all := se_in 627 (by decide +kernel) (by decide +kernel)
theorem q_instanceMethod_X5_takeAlarm : (Jvm.Cond.instanceMethod ({ cls := "StreamEnd", name := "takeAlarm", desc := "()V" } : Jvm.MethodName)) ∈ se_all := se_in 626 (by decide +kernel) (by decide +kernel)
theorem qX5_m314 : (Jvm.Cond.methodLink "StreamEnd" (314 : Nat) ({ cls := "StreamEnd", name := "takeAlarm", desc := "()V" } : Jvm.MethodName)) ∈ se_all := se_in 624 (by decide +kernel) (by decide +kernel)
theorem qX3_f15 : (Jvm.Cond.fieldLink "StreamEnd$Segment" (15 : Nat) "StreamEnd$Segment" "flags" "I") ∈ se_all := se_in 223 (by decide +kernel) (by decide +kernel)
theorem qX3_f19 : (Jvm.Cond.fieldLink "StreamEnd$Segment" (19 : Nat) "StreamEnd$Segment" "number" "I") ∈ se_all := se_in 225 (by decide +kernel) (by decide +kernel)
theorem qX3_f22 : (Jvm.Cond.fieldLink "StreamEnd$Segment" (22 : Nat) "StreamEnd$Segment" "thanked" "I") ∈ se_all := se_in 229 (by decide +kernel) (by decide +kernel)
theorem qX3_f25 : (Jvm.Cond.fieldLink "StreamEnd$Segment" (25 : Nat) "StreamEnd$Segment" "window" "I") ∈ se_all := se_in 232 (by decide +kernel) (by decide +kernel)
theorem qX3_f28 : (Jvm.Cond.fieldLink "StreamEnd$Segment" (28 : Nat) "StreamEnd$Segment" "largest" "I") ∈ se_all := se_in 234 (by decide +kernel) (by decide +kernel)
theorem qX3_f31 : (Jvm.Cond.fieldLink "StreamEnd$Segment" (31 : Nat) "StreamEnd$Segment" "count" "I") ∈ se_all := se_in 219 (by decide +kernel) (by decide +kernel)
theorem qX3_f9 : (Jvm.Cond.fieldLink "StreamEnd$Segment" (9 : Nat) "StreamEnd$Segment" "bytes" "[B") ∈ se_all := se_in 216 (by decide +kernel) (by decide +kernel)
theorem q_ini_StreamEnd_Segment : (Jvm.Cond.initialized "StreamEnd$Segment") ∈ se_all := se_in 7 (by decide +kernel) (by decide +kernel)
theorem q_code_X3_append : (Jvm.Cond.code ({ cls := "StreamEnd$Segment", name := "append", desc := "(B)V" } : Jvm.MethodName) prog_5_method_5_code (2 : Nat) (Option.none : Option Jvm.ClassFile.FieldType)) ∈ se_all := se_in 323 (by decide +kernel) (by decide +kernel)
theorem q_instanceMethod_X3_append : (Jvm.Cond.instanceMethod ({ cls := "StreamEnd$Segment", name := "append", desc := "(B)V" } : Jvm.MethodName)) ∈ se_all := se_in 322 (by decide +kernel) (by decide +kernel)
theorem qX5_f53 : (Jvm.Cond.fieldLink "StreamEnd" (53 : Nat) "StreamEnd" "made" "LStreamEnd$Segment;") ∈ se_all := se_in 258 (by decide +kernel) (by decide +kernel)
theorem q_code_X3_headIs : (Jvm.Cond.code ({ cls := "StreamEnd$Segment", name := "headIs", desc := "(IIIII)V" } : Jvm.MethodName) prog_5_method_2_code (6 : Nat) (Option.none : Option Jvm.ClassFile.FieldType)) ∈ se_all := se_in 299 (by decide +kernel) (by decide +kernel)
theorem q_instanceMethod_X3_headIs : (Jvm.Cond.instanceMethod ({ cls := "StreamEnd$Segment", name := "headIs", desc := "(IIIII)V" } : Jvm.MethodName)) ∈ se_all := se_in 298 (by decide +kernel) (by decide +kernel)
theorem q_code_X2_copyTo : (Jvm.Cond.code ({ cls := "StreamEnd$Outgoing", name := "copyTo", desc := "(LStreamEnd$Segment;II)V" } : Jvm.MethodName) prog_4_method_13_code (5 : Nat) (Option.none : Option Jvm.ClassFile.FieldType)) ∈ se_all := se_in 319 (by decide +kernel) (by decide +kernel)
theorem q_instanceMethod_X2_copyTo : (Jvm.Cond.instanceMethod ({ cls := "StreamEnd$Outgoing", name := "copyTo", desc := "(LStreamEnd$Segment;II)V" } : Jvm.MethodName)) ∈ se_all := se_in 318 (by decide +kernel) (by decide +kernel)
theorem qX4_m44 : (Jvm.Cond.methodLink "StreamEnd$Watch" (44 : Nat) ({ cls := "StreamEnd$Watch", name := "setAlarm", desc := "()V" } : Jvm.MethodName)) ∈ se_all := se_in 332 (by decide +kernel) (by decide +kernel)
theorem q_code_X5_make : (Jvm.Cond.code ({ cls := "StreamEnd", name := "make", desc := "(IIII)V" } : Jvm.MethodName) prog_1_method_36_code (7 : Nat) (Option.none : Option Jvm.ClassFile.FieldType)) ∈ se_all := se_in 311 (by decide +kernel) (by decide +kernel)
theorem q_instanceMethod_X5_make : (Jvm.Cond.instanceMethod ({ cls := "StreamEnd", name := "make", desc := "(IIII)V" } : Jvm.MethodName)) ∈ se_all := se_in 310 (by decide +kernel) (by decide +kernel)
theorem qX5_m209 : (Jvm.Cond.methodLink "StreamEnd" (209 : Nat) ({ cls := "StreamEnd", name := "make", desc := "(IIII)V" } : Jvm.MethodName)) ∈ se_all := se_in 308 (by decide +kernel) (by decide +kernel)
theorem q_code_X2_wasSent : (Jvm.Cond.code ({ cls := "StreamEnd$Outgoing", name := "wasSent", desc := "(IZ)V" } : Jvm.MethodName) prog_4_method_14_code (3 : Nat) (Option.none : Option Jvm.ClassFile.FieldType)) ∈ se_all := se_in 380 (by decide +kernel) (by decide +kernel)
theorem q_instanceMethod_X2_wasSent : (Jvm.Cond.instanceMethod ({ cls := "StreamEnd$Outgoing", name := "wasSent", desc := "(IZ)V" } : Jvm.MethodName)) ∈ se_all := se_in 379 (by decide +kernel) (by decide +kernel)
theorem q_code_X4_measure : (Jvm.Cond.code ({ cls := "StreamEnd$Watch", name := "measure", desc := "(I)V" } : Jvm.MethodName) prog_6_method_7_code (2 : Nat) (Option.none : Option Jvm.ClassFile.FieldType)) ∈ se_all := se_in 327 (by decide +kernel) (by decide +kernel)
theorem q_instanceMethod_X4_measure : (Jvm.Cond.instanceMethod ({ cls := "StreamEnd$Watch", name := "measure", desc := "(I)V" } : Jvm.MethodName)) ∈ se_all := se_in 326 (by decide +kernel) (by decide +kernel)
theorem q_code_X4_setAlarmIfOff : (Jvm.Cond.code ({ cls := "StreamEnd$Watch", name := "setAlarmIfOff", desc := "()V" } : Jvm.MethodName) prog_6_method_4_code (1 : Nat) (Option.none : Option Jvm.ClassFile.FieldType)) ∈ se_all := se_in 331 (by decide +kernel) (by decide +kernel)
theorem q_instanceMethod_X4_setAlarmIfOff : (Jvm.Cond.instanceMethod ({ cls := "StreamEnd$Watch", name := "setAlarmIfOff", desc := "()V" } : Jvm.MethodName)) ∈ se_all := se_in 330 (by decide +kernel) (by decide +kernel)
theorem q_code_X5_makeNew : (Jvm.Cond.code ({ cls := "StreamEnd", name := "makeNew", desc := "(IZ)V" } : Jvm.MethodName) prog_1_method_35_code (3 : Nat) (Option.none : Option Jvm.ClassFile.FieldType)) ∈ se_all := se_in 376 (by decide +kernel) (by decide +kernel)
theorem q_instanceMethod_X5_makeNew : (Jvm.Cond.instanceMethod ({ cls := "StreamEnd", name := "makeNew", desc := "(IZ)V" } : Jvm.MethodName)) ∈ se_all := se_in 375 (by decide +kernel) (by decide +kernel)
theorem qX5_m197 : (Jvm.Cond.methodLink "StreamEnd" (197 : Nat) ({ cls := "StreamEnd", name := "makeNew", desc := "(IZ)V" } : Jvm.MethodName)) ∈ se_all := se_in 373 (by decide +kernel) (by decide +kernel)
theorem q_code_X2_allowed : (Jvm.Cond.code ({ cls := "StreamEnd$Outgoing", name := "allowed", desc := "()I" } : Jvm.MethodName) prog_4_method_9_code (1 : Nat) (Option.some Jvm.ClassFile.FieldType.int)) ∈ se_all := se_in 362 (by decide +kernel) (by decide +kernel)
theorem q_instanceMethod_X2_allowed : (Jvm.Cond.instanceMethod ({ cls := "StreamEnd$Outgoing", name := "allowed", desc := "()I" } : Jvm.MethodName)) ∈ se_all := se_in 361 (by decide +kernel) (by decide +kernel)
theorem qX2_m59 : (Jvm.Cond.methodLink "StreamEnd$Outgoing" (59 : Nat) ({ cls := "StreamEnd$Outgoing", name := "allowed", desc := "()I" } : Jvm.MethodName)) ∈ se_all := se_in 359 (by decide +kernel) (by decide +kernel)
theorem qX2_m62 : (Jvm.Cond.methodLink "StreamEnd$Outgoing" (62 : Nat) ({ cls := "java/lang/Math", name := "min", desc := "(II)I" } : Jvm.MethodName)) ∈ se_all := se_in 363 (by decide +kernel) (by decide +kernel)
theorem qX2_m68 : (Jvm.Cond.methodLink "StreamEnd$Outgoing" (68 : Nat) ({ cls := "java/lang/Math", name := "max", desc := "(II)I" } : Jvm.MethodName)) ∈ se_all := se_in 364 (by decide +kernel) (by decide +kernel)
theorem q_static_Math_max : (Jvm.Cond.static ({ cls := "java/lang/Math", name := "max", desc := "(II)I" } : Jvm.MethodName)) ∈ se_all := se_in 365 (by decide +kernel) (by decide +kernel)
theorem q_code_Math_max : (Jvm.Cond.code ({ cls := "java/lang/Math", name := "max", desc := "(II)I" } : Jvm.MethodName) prog_13_method_65_code (2 : Nat) (Option.some Jvm.ClassFile.FieldType.int)) ∈ se_all := se_in 366 (by decide +kernel) (by decide +kernel)
theorem q_code_X2_newBytes : (Jvm.Cond.code ({ cls := "StreamEnd$Outgoing", name := "newBytes", desc := "()I" } : Jvm.MethodName) prog_4_method_10_code (1 : Nat) (Option.some Jvm.ClassFile.FieldType.int)) ∈ se_all := se_in 354 (by decide +kernel) (by decide +kernel)
theorem q_instanceMethod_X2_newBytes : (Jvm.Cond.instanceMethod ({ cls := "StreamEnd$Outgoing", name := "newBytes", desc := "()I" } : Jvm.MethodName)) ∈ se_all := se_in 353 (by decide +kernel) (by decide +kernel)
theorem qX2_m71 : (Jvm.Cond.methodLink "StreamEnd$Outgoing" (71 : Nat) ({ cls := "StreamEnd$Outgoing", name := "newBytes", desc := "()I" } : Jvm.MethodName)) ∈ se_all := se_in 351 (by decide +kernel) (by decide +kernel)
theorem q_code_X2_newHasLast : (Jvm.Cond.code ({ cls := "StreamEnd$Outgoing", name := "newHasLast", desc := "()Z" } : Jvm.MethodName) prog_4_method_11_code (2 : Nat) (Option.some Jvm.ClassFile.FieldType.boolean)) ∈ se_all := se_in 370 (by decide +kernel) (by decide +kernel)
theorem q_instanceMethod_X2_newHasLast : (Jvm.Cond.instanceMethod ({ cls := "StreamEnd$Outgoing", name := "newHasLast", desc := "()Z" } : Jvm.MethodName)) ∈ se_all := se_in 369 (by decide +kernel) (by decide +kernel)
theorem qX2_m74 : (Jvm.Cond.methodLink "StreamEnd$Outgoing" (74 : Nat) ({ cls := "StreamEnd$Outgoing", name := "newHasLast", desc := "()Z" } : Jvm.MethodName)) ∈ se_all := se_in 367 (by decide +kernel) (by decide +kernel)
theorem q_code_X3_has : (Jvm.Cond.code ({ cls := "StreamEnd$Segment", name := "has", desc := "(I)Z" } : Jvm.MethodName) prog_5_method_3_code (2 : Nat) (Option.some Jvm.ClassFile.FieldType.boolean)) ∈ se_all := se_in 303 (by decide +kernel) (by decide +kernel)
theorem q_instanceMethod_X3_has : (Jvm.Cond.instanceMethod ({ cls := "StreamEnd$Segment", name := "has", desc := "(I)Z" } : Jvm.MethodName)) ∈ se_all := se_in 302 (by decide +kernel) (by decide +kernel)
theorem qX5_f56 : (Jvm.Cond.fieldLink "StreamEnd" (56 : Nat) "StreamEnd" "anyMade" "Z") ∈ se_all := se_in 259 (by decide +kernel) (by decide +kernel)
theorem q_code_X5_makeProbe : (Jvm.Cond.code ({ cls := "StreamEnd", name := "makeProbe", desc := "()V" } : Jvm.MethodName) prog_1_method_34_code (2 : Nat) (Option.none : Option Jvm.ClassFile.FieldType)) ∈ se_all := se_in 384 (by decide +kernel) (by decide +kernel)
theorem q_instanceMethod_X5_makeProbe : (Jvm.Cond.instanceMethod ({ cls := "StreamEnd", name := "makeProbe", desc := "()V" } : Jvm.MethodName)) ∈ se_all := se_in 383 (by decide +kernel) (by decide +kernel)
theorem qX5_m203 : (Jvm.Cond.methodLink "StreamEnd" (203 : Nat) ({ cls := "StreamEnd", name := "makeProbe", desc := "()V" } : Jvm.MethodName)) ∈ se_all := se_in 381 (by decide +kernel) (by decide +kernel)
theorem q_code_X2_maySend : (Jvm.Cond.code ({ cls := "StreamEnd$Outgoing", name := "maySend", desc := "()Z" } : Jvm.MethodName) prog_4_method_12_code (1 : Nat) (Option.some Jvm.ClassFile.FieldType.boolean)) ∈ se_all := se_in 350 (by decide +kernel) (by decide +kernel)
theorem q_instanceMethod_X2_maySend : (Jvm.Cond.instanceMethod ({ cls := "StreamEnd$Outgoing", name := "maySend", desc := "()Z" } : Jvm.MethodName)) ∈ se_all := se_in 349 (by decide +kernel) (by decide +kernel)
theorem q_code_X5_makeAgain : (Jvm.Cond.code ({ cls := "StreamEnd", name := "makeAgain", desc := "()V" } : Jvm.MethodName) prog_1_method_33_code (3 : Nat) (Option.none : Option Jvm.ClassFile.FieldType)) ∈ se_all := se_in 339 (by decide +kernel) (by decide +kernel)
theorem q_instanceMethod_X5_makeAgain : (Jvm.Cond.instanceMethod ({ cls := "StreamEnd", name := "makeAgain", desc := "()V" } : Jvm.MethodName)) ∈ se_all := se_in 338 (by decide +kernel) (by decide +kernel)
theorem qX5_m182 : (Jvm.Cond.methodLink "StreamEnd" (182 : Nat) ({ cls := "StreamEnd", name := "makeAgain", desc := "()V" } : Jvm.MethodName)) ∈ se_all := se_in 336 (by decide +kernel) (by decide +kernel)
theorem q_code_X5_makeOpen : (Jvm.Cond.code ({ cls := "StreamEnd", name := "makeOpen", desc := "()V" } : Jvm.MethodName) prog_1_method_32_code (1 : Nat) (Option.none : Option Jvm.ClassFile.FieldType)) ∈ se_all := se_in 307 (by decide +kernel) (by decide +kernel)
theorem q_instanceMethod_X5_makeOpen : (Jvm.Cond.instanceMethod ({ cls := "StreamEnd", name := "makeOpen", desc := "()V" } : Jvm.MethodName)) ∈ se_all := se_in 306 (by decide +kernel) (by decide +kernel)
theorem qX5_m176 : (Jvm.Cond.methodLink "StreamEnd" (176 : Nat) ({ cls := "StreamEnd", name := "makeOpen", desc := "()V" } : Jvm.MethodName)) ∈ se_all := se_in 304 (by decide +kernel) (by decide +kernel)
theorem q_code_X5_makeReset : (Jvm.Cond.code ({ cls := "StreamEnd", name := "makeReset", desc := "()V" } : Jvm.MethodName) prog_1_method_31_code (1 : Nat) (Option.none : Option Jvm.ClassFile.FieldType)) ∈ se_all := se_in 295 (by decide +kernel) (by decide +kernel)
theorem q_instanceMethod_X5_makeReset : (Jvm.Cond.instanceMethod ({ cls := "StreamEnd", name := "makeReset", desc := "()V" } : Jvm.MethodName)) ∈ se_all := se_in 294 (by decide +kernel) (by decide +kernel)
theorem qX5_m170 : (Jvm.Cond.methodLink "StreamEnd" (170 : Nat) ({ cls := "StreamEnd", name := "makeReset", desc := "()V" } : Jvm.MethodName)) ∈ se_all := se_in 292 (by decide +kernel) (by decide +kernel)
theorem qX5_k284 : (Jvm.Cond.constant "StreamEnd" (284 : Nat) (65535 : Int32)) ∈ se_all := se_in 686 (by decide +kernel) (by decide +kernel)
theorem qX3_m34 : (Jvm.Cond.methodLink "StreamEnd$Segment" (34 : Nat) ({ cls := "StreamEnd$Segment", name := "has", desc := "(I)Z" } : Jvm.MethodName)) ∈ se_all := se_in 700 (by decide +kernel) (by decide +kernel)
theorem qX1_m44 : (Jvm.Cond.methodLink "StreamEnd$Incoming" (44 : Nat) ({ cls := "StreamEnd$Incoming", name := "room", desc := "()I" } : Jvm.MethodName)) ∈ se_all := se_in 745 (by decide +kernel) (by decide +kernel)
theorem q_code_X5_isBefore : (Jvm.Cond.code ({ cls := "StreamEnd", name := "isBefore", desc := "(II)Z" } : Jvm.MethodName) prog_1_method_18_code (2 : Nat) (Option.some Jvm.ClassFile.FieldType.boolean)) ∈ se_all := se_in 760 (by decide +kernel) (by decide +kernel)
theorem q_static_X5_isBefore : (Jvm.Cond.static ({ cls := "StreamEnd", name := "isBefore", desc := "(II)Z" } : Jvm.MethodName)) ∈ se_all := se_in 759 (by decide +kernel) (by decide +kernel)
theorem q_code_X5_isNotBehind : (Jvm.Cond.code ({ cls := "StreamEnd", name := "isNotBehind", desc := "(II)Z" } : Jvm.MethodName) prog_1_method_19_code (2 : Nat) (Option.some Jvm.ClassFile.FieldType.boolean)) ∈ se_all := se_in 732 (by decide +kernel) (by decide +kernel)
theorem q_static_X5_isNotBehind : (Jvm.Cond.static ({ cls := "StreamEnd", name := "isNotBehind", desc := "(II)Z" } : Jvm.MethodName)) ∈ se_all := se_in 731 (by decide +kernel) (by decide +kernel)
theorem qX5_f49 : (Jvm.Cond.fieldLink "StreamEnd" (49 : Nat) "StreamEnd" "arriving" "LStreamEnd$Segment;") ∈ se_all := se_in 257 (by decide +kernel) (by decide +kernel)
theorem qX5_m408 : (Jvm.Cond.methodLink "StreamEnd" (408 : Nat) ({ cls := "StreamEnd", name := "isBefore", desc := "(II)Z" } : Jvm.MethodName)) ∈ se_all := se_in 758 (by decide +kernel) (by decide +kernel)
theorem q_code_X2_windowIsOlderThan : (Jvm.Cond.code ({ cls := "StreamEnd$Outgoing", name := "windowIsOlderThan", desc := "(LStreamEnd$Segment;)Z" } : Jvm.MethodName) prog_4_method_17_code (2 : Nat) (Option.some Jvm.ClassFile.FieldType.boolean)) ∈ se_all := se_in 768 (by decide +kernel) (by decide +kernel)
theorem q_instanceMethod_X2_windowIsOlderThan : (Jvm.Cond.instanceMethod ({ cls := "StreamEnd$Outgoing", name := "windowIsOlderThan", desc := "(LStreamEnd$Segment;)Z" } : Jvm.MethodName)) ∈ se_all := se_in 767 (by decide +kernel) (by decide +kernel)
theorem qX2_m52 : (Jvm.Cond.methodLink "StreamEnd$Outgoing" (52 : Nat) ({ cls := "StreamEnd$Outgoing", name := "hasUnthanked", desc := "()Z" } : Jvm.MethodName)) ∈ se_all := se_in 775 (by decide +kernel) (by decide +kernel)
theorem qX1_m53 : (Jvm.Cond.methodLink "StreamEnd$Incoming" (53 : Nat) ({ cls := "java/lang/Math", name := "max", desc := "(II)I" } : Jvm.MethodName)) ∈ se_all := se_in 788 (by decide +kernel) (by decide +kernel)
theorem qX1_m62 : (Jvm.Cond.methodLink "StreamEnd$Incoming" (62 : Nat) ({ cls := "java/lang/Math", name := "min", desc := "(II)I" } : Jvm.MethodName)) ∈ se_all := se_in 789 (by decide +kernel) (by decide +kernel)
theorem q_code_X1_isAtLast : (Jvm.Cond.code ({ cls := "StreamEnd$Incoming", name := "isAtLast", desc := "()Z" } : Jvm.MethodName) prog_3_method_9_code (1 : Nat) (Option.some Jvm.ClassFile.FieldType.boolean)) ∈ se_all := se_in 801 (by decide +kernel) (by decide +kernel)
theorem q_instanceMethod_X1_isAtLast : (Jvm.Cond.instanceMethod ({ cls := "StreamEnd$Incoming", name := "isAtLast", desc := "()Z" } : Jvm.MethodName)) ∈ se_all := se_in 800 (by decide +kernel) (by decide +kernel)
theorem qX1_m69 : (Jvm.Cond.methodLink "StreamEnd$Incoming" (69 : Nat) ({ cls := "StreamEnd$Incoming", name := "isAtLast", desc := "()Z" } : Jvm.MethodName)) ∈ se_all := se_in 798 (by decide +kernel) (by decide +kernel)
theorem q_code_X1_goOn : (Jvm.Cond.code ({ cls := "StreamEnd$Incoming", name := "goOn", desc := "()V" } : Jvm.MethodName) prog_3_method_8_code (1 : Nat) (Option.none : Option Jvm.ClassFile.FieldType)) ∈ se_all := se_in 797 (by decide +kernel) (by decide +kernel)
theorem q_instanceMethod_X1_goOn : (Jvm.Cond.instanceMethod ({ cls := "StreamEnd$Incoming", name := "goOn", desc := "()V" } : Jvm.MethodName)) ∈ se_all := se_in 796 (by decide +kernel) (by decide +kernel)
theorem q_code_X5_peerLeaves : (Jvm.Cond.code ({ cls := "StreamEnd", name := "peerLeaves", desc := "()V" } : Jvm.MethodName) prog_1_method_49_code (1 : Nat) (Option.none : Option Jvm.ClassFile.FieldType)) ∈ se_all := se_in 805 (by decide +kernel) (by decide +kernel)
theorem q_instanceMethod_X5_peerLeaves : (Jvm.Cond.instanceMethod ({ cls := "StreamEnd", name := "peerLeaves", desc := "()V" } : Jvm.MethodName)) ∈ se_all := se_in 804 (by decide +kernel) (by decide +kernel)
theorem qX5_m443 : (Jvm.Cond.methodLink "StreamEnd" (443 : Nat) ({ cls := "StreamEnd", name := "peerLeaves", desc := "()V" } : Jvm.MethodName)) ∈ se_all := se_in 802 (by decide +kernel) (by decide +kernel)
theorem q_code_X1_store : (Jvm.Cond.code ({ cls := "StreamEnd$Incoming", name := "store", desc := "(LStreamEnd$Segment;)V" } : Jvm.MethodName) prog_3_method_6_code (7 : Nat) (Option.none : Option Jvm.ClassFile.FieldType)) ∈ se_all := se_in 787 (by decide +kernel) (by decide +kernel)
theorem q_instanceMethod_X1_store : (Jvm.Cond.instanceMethod ({ cls := "StreamEnd$Incoming", name := "store", desc := "(LStreamEnd$Segment;)V" } : Jvm.MethodName)) ∈ se_all := se_in 786 (by decide +kernel) (by decide +kernel)
theorem q_code_X1_noteLast : (Jvm.Cond.code ({ cls := "StreamEnd$Incoming", name := "noteLast", desc := "(I)V" } : Jvm.MethodName) prog_3_method_7_code (3 : Nat) (Option.none : Option Jvm.ClassFile.FieldType)) ∈ se_all := se_in 793 (by decide +kernel) (by decide +kernel)
theorem q_instanceMethod_X1_noteLast : (Jvm.Cond.instanceMethod ({ cls := "StreamEnd$Incoming", name := "noteLast", desc := "(I)V" } : Jvm.MethodName)) ∈ se_all := se_in 792 (by decide +kernel) (by decide +kernel)
theorem qX4_m67 : (Jvm.Cond.methodLink "StreamEnd$Watch" (67 : Nat) ({ cls := "java/lang/Math", name := "max", desc := "(II)I" } : Jvm.MethodName)) ∈ se_all := se_in 740 (by decide +kernel) (by decide +kernel)
theorem qX4_m63 : (Jvm.Cond.methodLink "StreamEnd$Watch" (63 : Nat) ({ cls := "java/lang/Math", name := "abs", desc := "(I)I" } : Jvm.MethodName)) ∈ se_all := se_in 737 (by decide +kernel) (by decide +kernel)
theorem q_static_Math_abs : (Jvm.Cond.static ({ cls := "java/lang/Math", name := "abs", desc := "(I)I" } : Jvm.MethodName)) ∈ se_all := se_in 738 (by decide +kernel) (by decide +kernel)
theorem q_code_Math_abs : (Jvm.Cond.code ({ cls := "java/lang/Math", name := "abs", desc := "(I)I" } : Jvm.MethodName) prog_13_method_59_code (1 : Nat) (Option.some Jvm.ClassFile.FieldType.int)) ∈ se_all := se_in 739 (by decide +kernel) (by decide +kernel)
theorem q_code_X4_learn : (Jvm.Cond.code ({ cls := "StreamEnd$Watch", name := "learn", desc := "(I)V" } : Jvm.MethodName) prog_6_method_9_code (3 : Nat) (Option.none : Option Jvm.ClassFile.FieldType)) ∈ se_all := se_in 736 (by decide +kernel) (by decide +kernel)
theorem q_instanceMethod_X4_learn : (Jvm.Cond.instanceMethod ({ cls := "StreamEnd$Watch", name := "learn", desc := "(I)V" } : Jvm.MethodName)) ∈ se_all := se_in 735 (by decide +kernel) (by decide +kernel)
theorem qX4_m59 : (Jvm.Cond.methodLink "StreamEnd$Watch" (59 : Nat) ({ cls := "StreamEnd$Watch", name := "learn", desc := "(I)V" } : Jvm.MethodName)) ∈ se_all := se_in 733 (by decide +kernel) (by decide +kernel)
theorem q_code_X2_thank : (Jvm.Cond.code ({ cls := "StreamEnd$Outgoing", name := "thank", desc := "(I)V" } : Jvm.MethodName) prog_4_method_15_code (3 : Nat) (Option.none : Option Jvm.ClassFile.FieldType)) ∈ se_all := se_in 725 (by decide +kernel) (by decide +kernel)
theorem q_instanceMethod_X2_thank : (Jvm.Cond.instanceMethod ({ cls := "StreamEnd$Outgoing", name := "thank", desc := "(I)V" } : Jvm.MethodName)) ∈ se_all := se_in 724 (by decide +kernel) (by decide +kernel)
theorem q_code_X4_endMeasure : (Jvm.Cond.code ({ cls := "StreamEnd$Watch", name := "endMeasure", desc := "(I)V" } : Jvm.MethodName) prog_6_method_8_code (2 : Nat) (Option.none : Option Jvm.ClassFile.FieldType)) ∈ se_all := se_in 729 (by decide +kernel) (by decide +kernel)
theorem q_instanceMethod_X4_endMeasure : (Jvm.Cond.instanceMethod ({ cls := "StreamEnd$Watch", name := "endMeasure", desc := "(I)V" } : Jvm.MethodName)) ∈ se_all := se_in 728 (by decide +kernel) (by decide +kernel)
theorem q_code_X3_size : (Jvm.Cond.code ({ cls := "StreamEnd$Segment", name := "size", desc := "()I" } : Jvm.MethodName) prog_5_method_4_code (1 : Nat) (Option.some Jvm.ClassFile.FieldType.int)) ∈ se_all := se_in 699 (by decide +kernel) (by decide +kernel)
theorem q_instanceMethod_X3_size : (Jvm.Cond.instanceMethod ({ cls := "StreamEnd$Segment", name := "size", desc := "()I" } : Jvm.MethodName)) ∈ se_all := se_in 698 (by decide +kernel) (by decide +kernel)
theorem q_code_X0_resetIs : (Jvm.Cond.code ({ cls := "StreamEnd$Due", name := "resetIs", desc := "(III)V" } : Jvm.MethodName) prog_2_method_4_code (4 : Nat) (Option.none : Option Jvm.ClassFile.FieldType)) ∈ se_all := se_in 604 (by decide +kernel) (by decide +kernel)
theorem q_instanceMethod_X0_resetIs : (Jvm.Cond.instanceMethod ({ cls := "StreamEnd$Due", name := "resetIs", desc := "(III)V" } : Jvm.MethodName)) ∈ se_all := se_in 603 (by decide +kernel) (by decide +kernel)
theorem q_code_X5_takeWindow : (Jvm.Cond.code ({ cls := "StreamEnd", name := "takeWindow", desc := "()V" } : Jvm.MethodName) prog_1_method_46_code (2 : Nat) (Option.none : Option Jvm.ClassFile.FieldType)) ∈ se_all := se_in 764 (by decide +kernel) (by decide +kernel)
theorem q_instanceMethod_X5_takeWindow : (Jvm.Cond.instanceMethod ({ cls := "StreamEnd", name := "takeWindow", desc := "()V" } : Jvm.MethodName)) ∈ se_all := se_in 763 (by decide +kernel) (by decide +kernel)
theorem qX5_m411 : (Jvm.Cond.methodLink "StreamEnd" (411 : Nat) ({ cls := "StreamEnd", name := "takeWindow", desc := "()V" } : Jvm.MethodName)) ∈ se_all := se_in 761 (by decide +kernel) (by decide +kernel)
theorem q_code_X2_lastIsThanked : (Jvm.Cond.code ({ cls := "StreamEnd$Outgoing", name := "lastIsThanked", desc := "()Z" } : Jvm.MethodName) prog_4_method_8_code (1 : Nat) (Option.some Jvm.ClassFile.FieldType.boolean)) ∈ se_all := se_in 774 (by decide +kernel) (by decide +kernel)
theorem q_instanceMethod_X2_lastIsThanked : (Jvm.Cond.instanceMethod ({ cls := "StreamEnd$Outgoing", name := "lastIsThanked", desc := "()Z" } : Jvm.MethodName)) ∈ se_all := se_in 773 (by decide +kernel) (by decide +kernel)
theorem q_code_X5_takeBytes : (Jvm.Cond.code ({ cls := "StreamEnd", name := "takeBytes", desc := "()V" } : Jvm.MethodName) prog_1_method_48_code (2 : Nat) (Option.none : Option Jvm.ClassFile.FieldType)) ∈ se_all := se_in 783 (by decide +kernel) (by decide +kernel)
theorem q_instanceMethod_X5_takeBytes : (Jvm.Cond.instanceMethod ({ cls := "StreamEnd", name := "takeBytes", desc := "()V" } : Jvm.MethodName)) ∈ se_all := se_in 782 (by decide +kernel) (by decide +kernel)
theorem qX5_m420 : (Jvm.Cond.methodLink "StreamEnd" (420 : Nat) ({ cls := "StreamEnd", name := "takeBytes", desc := "()V" } : Jvm.MethodName)) ∈ se_all := se_in 780 (by decide +kernel) (by decide +kernel)
theorem q_code_X5_leave : (Jvm.Cond.code ({ cls := "StreamEnd", name := "leave", desc := "()V" } : Jvm.MethodName) prog_1_method_47_code (1 : Nat) (Option.none : Option Jvm.ClassFile.FieldType)) ∈ se_all := se_in 779 (by decide +kernel) (by decide +kernel)
theorem q_instanceMethod_X5_leave : (Jvm.Cond.instanceMethod ({ cls := "StreamEnd", name := "leave", desc := "()V" } : Jvm.MethodName)) ∈ se_all := se_in 778 (by decide +kernel) (by decide +kernel)
theorem qX5_m417 : (Jvm.Cond.methodLink "StreamEnd" (417 : Nat) ({ cls := "StreamEnd", name := "leave", desc := "()V" } : Jvm.MethodName)) ∈ se_all := se_in 776 (by decide +kernel) (by decide +kernel)
theorem q_code_X5_takeThanked : (Jvm.Cond.code ({ cls := "StreamEnd", name := "takeThanked", desc := "()V" } : Jvm.MethodName) prog_1_method_45_code (1 : Nat) (Option.none : Option Jvm.ClassFile.FieldType)) ∈ se_all := se_in 721 (by decide +kernel) (by decide +kernel)
theorem q_instanceMethod_X5_takeThanked : (Jvm.Cond.instanceMethod ({ cls := "StreamEnd", name := "takeThanked", desc := "()V" } : Jvm.MethodName)) ∈ se_all := se_in 720 (by decide +kernel) (by decide +kernel)
theorem qX5_m400 : (Jvm.Cond.methodLink "StreamEnd" (400 : Nat) ({ cls := "StreamEnd", name := "takeThanked", desc := "()V" } : Jvm.MethodName)) ∈ se_all := se_in 718 (by decide +kernel) (by decide +kernel)
theorem q_code_X5_answerWithReset : (Jvm.Cond.code ({ cls := "StreamEnd", name := "answerWithReset", desc := "()V" } : Jvm.MethodName) prog_1_method_38_code (1 : Nat) (Option.none : Option Jvm.ClassFile.FieldType)) ∈ se_all := se_in 695 (by decide +kernel) (by decide +kernel)
theorem q_instanceMethod_X5_answerWithReset : (Jvm.Cond.instanceMethod ({ cls := "StreamEnd", name := "answerWithReset", desc := "()V" } : Jvm.MethodName)) ∈ se_all := se_in 694 (by decide +kernel) (by decide +kernel)
theorem qX5_m372 : (Jvm.Cond.methodLink "StreamEnd" (372 : Nat) ({ cls := "StreamEnd", name := "answerWithReset", desc := "()V" } : Jvm.MethodName)) ∈ se_all := se_in 692 (by decide +kernel) (by decide +kernel)
theorem q_code_X5_startStream : (Jvm.Cond.code ({ cls := "StreamEnd", name := "startStream", desc := "(IZ)V" } : Jvm.MethodName) prog_1_method_23_code (3 : Nat) (Option.none : Option Jvm.ClassFile.FieldType)) ∈ se_all := se_in 475 (by decide +kernel) (by decide +kernel)
theorem q_instanceMethod_X5_startStream : (Jvm.Cond.instanceMethod ({ cls := "StreamEnd", name := "startStream", desc := "(IZ)V" } : Jvm.MethodName)) ∈ se_all := se_in 474 (by decide +kernel) (by decide +kernel)
theorem qX5_m80 : (Jvm.Cond.methodLink "StreamEnd" (80 : Nat) ({ cls := "StreamEnd", name := "startStream", desc := "(IZ)V" } : Jvm.MethodName)) ∈ se_all := se_in 472 (by decide +kernel) (by decide +kernel)
theorem q_code_X1_open : (Jvm.Cond.code ({ cls := "StreamEnd$Incoming", name := "open", desc := "(I)V" } : Jvm.MethodName) prog_3_method_3_code (2 : Nat) (Option.none : Option Jvm.ClassFile.FieldType)) ∈ se_all := se_in 712 (by decide +kernel) (by decide +kernel)
theorem q_instanceMethod_X1_open : (Jvm.Cond.instanceMethod ({ cls := "StreamEnd$Incoming", name := "open", desc := "(I)V" } : Jvm.MethodName)) ∈ se_all := se_in 711 (by decide +kernel) (by decide +kernel)
theorem q_code_X5_takeOpen : (Jvm.Cond.code ({ cls := "StreamEnd", name := "takeOpen", desc := "()V" } : Jvm.MethodName) prog_1_method_41_code (3 : Nat) (Option.none : Option Jvm.ClassFile.FieldType)) ∈ se_all := se_in 708 (by decide +kernel) (by decide +kernel)
theorem q_instanceMethod_X5_takeOpen : (Jvm.Cond.instanceMethod ({ cls := "StreamEnd", name := "takeOpen", desc := "()V" } : Jvm.MethodName)) ∈ se_all := se_in 707 (by decide +kernel) (by decide +kernel)
theorem qX5_m397 : (Jvm.Cond.methodLink "StreamEnd" (397 : Nat) ({ cls := "StreamEnd", name := "takeOpen", desc := "()V" } : Jvm.MethodName)) ∈ se_all := se_in 705 (by decide +kernel) (by decide +kernel)
theorem q_code_X5_isEnded : (Jvm.Cond.code ({ cls := "StreamEnd", name := "isEnded", desc := "()Z" } : Jvm.MethodName) prog_1_method_20_code (1 : Nat) (Option.some Jvm.ClassFile.FieldType.boolean)) ∈ se_all := se_in 404 (by decide +kernel) (by decide +kernel)
theorem q_instanceMethod_X5_isEnded : (Jvm.Cond.instanceMethod ({ cls := "StreamEnd", name := "isEnded", desc := "()Z" } : Jvm.MethodName)) ∈ se_all := se_in 403 (by decide +kernel) (by decide +kernel)
theorem qX5_m69 : (Jvm.Cond.methodLink "StreamEnd" (69 : Nat) ({ cls := "StreamEnd", name := "isEnded", desc := "()Z" } : Jvm.MethodName)) ∈ se_all := se_in 401 (by decide +kernel) (by decide +kernel)
theorem q_code_X1_fits : (Jvm.Cond.code ({ cls := "StreamEnd$Incoming", name := "fits", desc := "(II)Z" } : Jvm.MethodName) prog_3_method_5_code (4 : Nat) (Option.some Jvm.ClassFile.FieldType.boolean)) ∈ se_all := se_in 744 (by decide +kernel) (by decide +kernel)
theorem q_instanceMethod_X1_fits : (Jvm.Cond.instanceMethod ({ cls := "StreamEnd$Incoming", name := "fits", desc := "(II)Z" } : Jvm.MethodName)) ∈ se_all := se_in 743 (by decide +kernel) (by decide +kernel)
theorem q_code_X5_takeInStream : (Jvm.Cond.code ({ cls := "StreamEnd", name := "takeInStream", desc := "()V" } : Jvm.MethodName) prog_1_method_44_code (1 : Nat) (Option.none : Option Jvm.ClassFile.FieldType)) ∈ se_all := se_in 757 (by decide +kernel) (by decide +kernel)
theorem q_instanceMethod_X5_takeInStream : (Jvm.Cond.instanceMethod ({ cls := "StreamEnd", name := "takeInStream", desc := "()V" } : Jvm.MethodName)) ∈ se_all := se_in 756 (by decide +kernel) (by decide +kernel)
theorem qX5_m394 : (Jvm.Cond.methodLink "StreamEnd" (394 : Nat) ({ cls := "StreamEnd", name := "takeInStream", desc := "()V" } : Jvm.MethodName)) ∈ se_all := se_in 754 (by decide +kernel) (by decide +kernel)
theorem q_code_X5_takeReset : (Jvm.Cond.code ({ cls := "StreamEnd", name := "takeReset", desc := "()V" } : Jvm.MethodName) prog_1_method_43_code (1 : Nat) (Option.none : Option Jvm.ClassFile.FieldType)) ∈ se_all := se_in 753 (by decide +kernel) (by decide +kernel)
theorem q_instanceMethod_X5_takeReset : (Jvm.Cond.instanceMethod ({ cls := "StreamEnd", name := "takeReset", desc := "()V" } : Jvm.MethodName)) ∈ se_all := se_in 752 (by decide +kernel) (by decide +kernel)
theorem qX5_m391 : (Jvm.Cond.methodLink "StreamEnd" (391 : Nat) ({ cls := "StreamEnd", name := "takeReset", desc := "()V" } : Jvm.MethodName)) ∈ se_all := se_in 750 (by decide +kernel) (by decide +kernel)
theorem q_code_X5_takeMisfit : (Jvm.Cond.code ({ cls := "StreamEnd", name := "takeMisfit", desc := "()V" } : Jvm.MethodName) prog_1_method_42_code (1 : Nat) (Option.none : Option Jvm.ClassFile.FieldType)) ∈ se_all := se_in 749 (by decide +kernel) (by decide +kernel)
theorem q_instanceMethod_X5_takeMisfit : (Jvm.Cond.instanceMethod ({ cls := "StreamEnd", name := "takeMisfit", desc := "()V" } : Jvm.MethodName)) ∈ se_all := se_in 748 (by decide +kernel) (by decide +kernel)
theorem qX5_m388 : (Jvm.Cond.methodLink "StreamEnd" (388 : Nat) ({ cls := "StreamEnd", name := "takeMisfit", desc := "()V" } : Jvm.MethodName)) ∈ se_all := se_in 746 (by decide +kernel) (by decide +kernel)
theorem q_code_X5_takeWhenAsking : (Jvm.Cond.code ({ cls := "StreamEnd", name := "takeWhenAsking", desc := "()V" } : Jvm.MethodName) prog_1_method_40_code (2 : Nat) (Option.none : Option Jvm.ClassFile.FieldType)) ∈ se_all := se_in 717 (by decide +kernel) (by decide +kernel)
theorem q_instanceMethod_X5_takeWhenAsking : (Jvm.Cond.instanceMethod ({ cls := "StreamEnd", name := "takeWhenAsking", desc := "()V" } : Jvm.MethodName)) ∈ se_all := se_in 716 (by decide +kernel) (by decide +kernel)
theorem qX5_m378 : (Jvm.Cond.methodLink "StreamEnd" (378 : Nat) ({ cls := "StreamEnd", name := "takeWhenAsking", desc := "()V" } : Jvm.MethodName)) ∈ se_all := se_in 714 (by decide +kernel) (by decide +kernel)
theorem q_code_X5_takeWhenListening : (Jvm.Cond.code ({ cls := "StreamEnd", name := "takeWhenListening", desc := "()V" } : Jvm.MethodName) prog_1_method_39_code (1 : Nat) (Option.none : Option Jvm.ClassFile.FieldType)) ∈ se_all := se_in 704 (by decide +kernel) (by decide +kernel)
theorem q_instanceMethod_X5_takeWhenListening : (Jvm.Cond.instanceMethod ({ cls := "StreamEnd", name := "takeWhenListening", desc := "()V" } : Jvm.MethodName)) ∈ se_all := se_in 703 (by decide +kernel) (by decide +kernel)
theorem qX5_m375 : (Jvm.Cond.methodLink "StreamEnd" (375 : Nat) ({ cls := "StreamEnd", name := "takeWhenListening", desc := "()V" } : Jvm.MethodName)) ∈ se_all := se_in 701 (by decide +kernel) (by decide +kernel)
set_option maxRecDepth 20000 in
theorem iwX0 : ∀ w ∈ u_ws RX0 TX0 9, w ∈ se_all := se_inL [191, 193, 195, 197, 199, 201, 203, 205, 207] (by decide +kernel) (by decide +kernel)
set_option maxRecDepth 20000 in
theorem iwX1 : ∀ w ∈ u_ws RX1 TX1 8, w ∈ se_all := se_inL [101, 103, 105, 107, 109, 111, 113, 115] (by decide +kernel) (by decide +kernel)
set_option maxRecDepth 20000 in
theorem iwX2 : ∀ w ∈ u_ws RX2 TX2 13, w ∈ se_all := se_inL [52, 54, 56, 58, 60, 62, 64, 66, 68, 70, 72, 74, 76] (by decide +kernel) (by decide +kernel)
set_option maxRecDepth 20000 in
theorem iwX3 : ∀ w ∈ u_ws RX3 TX3 7, w ∈ se_all := se_inL [236, 238, 240, 242, 244, 246, 248] (by decide +kernel) (by decide +kernel)
set_option maxRecDepth 20000 in
theorem iwX4 : ∀ w ∈ u_ws RX4 TX4 11, w ∈ se_all := se_inL [144, 146, 148, 150, 152, 154, 156, 158, 160, 162, 164] (by decide +kernel) (by decide +kernel)
set_option maxRecDepth 20000 in
theorem iwX5 : ∀ w ∈ u_ws RX5 TX5 12, w ∈ se_all := se_inL [263, 265, 267, 269, 271, 273, 275, 277, 279, 281, 283, 285] (by decide +kernel) (by decide +kernel)
set_option maxRecDepth 20000 in
theorem iwX6 : ∀ w ∈ u_ws RX6 TX6 50, w ∈ se_all := se_inL [870, 872, 874, 876, 878, 880, 882, 884, 886, 888, 890, 892, 894, 896, 898, 900, 902, 904, 906, 908, 910, 912, 914, 916, 918, 920, 922, 924, 926, 928, 930, 932, 934, 936, 938, 940, 942, 944, 946, 948, 950, 952, 954, 956, 958, 960, 962, 964, 966, 968] (by decide +kernel) (by decide +kernel)
theorem q_sel_X2_windowIs : Cond.selects RX2 yX2_windowIs yX2_windowIs ∈ se_all := se_inS (y := yX2_windowIs) (n := 13) (by decide +kernel)
theorem q_sel_X0_dropStream : Cond.selects RX0 yX0_dropStream yX0_dropStream ∈ se_all := se_inS (y := yX0_dropStream) (n := 9) (by decide +kernel)
theorem q_sel_X2_restart : Cond.selects RX2 yX2_restart yX2_restart ∈ se_all := se_inS (y := yX2_restart) (n := 13) (by decide +kernel)
theorem q_sel_X1_restart : Cond.selects RX1 yX1_restart yX1_restart ∈ se_all := se_inS (y := yX1_restart) (n := 8) (by decide +kernel)
theorem q_sel_X4_restart : Cond.selects RX4 yX4_restart yX4_restart ∈ se_all := se_inS (y := yX4_restart) (n := 11) (by decide +kernel)
theorem q_sel_X0_restart : Cond.selects RX0 yX0_restart yX0_restart ∈ se_all := se_inS (y := yX0_restart) (n := 9) (by decide +kernel)
theorem q_sel_X5_openIsDue : Cond.selects RX5 yX5_openIsDue yX5_openIsDue ∈ se_all := se_inS (y := yX5_openIsDue) (n := 12) (by decide +kernel)
theorem q_sel_X2_unsent : Cond.selects RX2 yX2_unsent yX2_unsent ∈ se_all := se_inS (y := yX2_unsent) (n := 13) (by decide +kernel)
theorem q_sel_X5_maySendNew : Cond.selects RX5 yX5_maySendNew yX5_maySendNew ∈ se_all := se_inS (y := yX5_maySendNew) (n := 12) (by decide +kernel)
theorem q_sel_X2_hasUnthanked : Cond.selects RX2 yX2_hasUnthanked yX2_hasUnthanked ∈ se_all := se_inS (y := yX2_hasUnthanked) (n := 13) (by decide +kernel)
theorem q_sel_X2_hasNew : Cond.selects RX2 yX2_hasNew yX2_hasNew ∈ se_all := se_inS (y := yX2_hasNew) (n := 13) (by decide +kernel)
theorem q_sel_X4_setAlarm : Cond.selects RX4 yX4_setAlarm yX4_setAlarm ∈ se_all := se_inS (y := yX4_setAlarm) (n := 11) (by decide +kernel)
theorem q_sel_X1_room : Cond.selects RX1 yX1_room yX1_room ∈ se_all := se_inS (y := yX1_room) (n := 8) (by decide +kernel)
theorem q_sel_X1_takeByte : Cond.selects RX1 yX1_takeByte yX1_takeByte ∈ se_all := se_inS (y := yX1_takeByte) (n := 8) (by decide +kernel)
theorem q_sel_X5_mayTakeBytes : Cond.selects RX5 yX5_mayTakeBytes yX5_mayTakeBytes ∈ se_all := se_inS (y := yX5_mayTakeBytes) (n := 12) (by decide +kernel)
theorem q_sel_X5_beginQuiet : Cond.selects RX5 yX5_beginQuiet yX5_beginQuiet ∈ se_all := se_inS (y := yX5_beginQuiet) (n := 12) (by decide +kernel)
theorem q_sel_X4_doubleWait : Cond.selects RX4 yX4_doubleWait yX4_doubleWait ∈ se_all := se_inS (y := yX4_doubleWait) (n := 11) (by decide +kernel)
theorem q_sel_X5_halt : Cond.selects RX5 yX5_halt yX5_halt ∈ se_all := se_inS (y := yX5_halt) (n := 12) (by decide +kernel)
theorem q_sel_X5_takeAlarm : Cond.selects RX5 yX5_takeAlarm yX5_takeAlarm ∈ se_all := se_inS (y := yX5_takeAlarm) (n := 12) (by decide +kernel)
theorem q_sel_X3_append : Cond.selects RX3 yX3_append yX3_append ∈ se_all := se_inS (y := yX3_append) (n := 7) (by decide +kernel)
theorem q_sel_X3_headIs : Cond.selects RX3 yX3_headIs yX3_headIs ∈ se_all := se_inS (y := yX3_headIs) (n := 7) (by decide +kernel)
theorem q_sel_X2_copyTo : Cond.selects RX2 yX2_copyTo yX2_copyTo ∈ se_all := se_inS (y := yX2_copyTo) (n := 13) (by decide +kernel)
theorem q_sel_X5_make : Cond.selects RX5 yX5_make yX5_make ∈ se_all := se_inS (y := yX5_make) (n := 12) (by decide +kernel)
theorem q_sel_X2_wasSent : Cond.selects RX2 yX2_wasSent yX2_wasSent ∈ se_all := se_inS (y := yX2_wasSent) (n := 13) (by decide +kernel)
theorem q_sel_X4_measure : Cond.selects RX4 yX4_measure yX4_measure ∈ se_all := se_inS (y := yX4_measure) (n := 11) (by decide +kernel)
theorem q_sel_X4_setAlarmIfOff : Cond.selects RX4 yX4_setAlarmIfOff yX4_setAlarmIfOff ∈ se_all := se_inS (y := yX4_setAlarmIfOff) (n := 11) (by decide +kernel)
theorem q_sel_X5_makeNew : Cond.selects RX5 yX5_makeNew yX5_makeNew ∈ se_all := se_inS (y := yX5_makeNew) (n := 12) (by decide +kernel)
theorem q_sel_X2_allowed : Cond.selects RX2 yX2_allowed yX2_allowed ∈ se_all := se_inS (y := yX2_allowed) (n := 13) (by decide +kernel)
theorem q_sel_X2_newBytes : Cond.selects RX2 yX2_newBytes yX2_newBytes ∈ se_all := se_inS (y := yX2_newBytes) (n := 13) (by decide +kernel)
theorem q_sel_X2_newHasLast : Cond.selects RX2 yX2_newHasLast yX2_newHasLast ∈ se_all := se_inS (y := yX2_newHasLast) (n := 13) (by decide +kernel)
theorem q_sel_X3_has : Cond.selects RX3 yX3_has yX3_has ∈ se_all := se_inS (y := yX3_has) (n := 7) (by decide +kernel)
theorem q_sel_X5_makeProbe : Cond.selects RX5 yX5_makeProbe yX5_makeProbe ∈ se_all := se_inS (y := yX5_makeProbe) (n := 12) (by decide +kernel)
theorem q_sel_X2_maySend : Cond.selects RX2 yX2_maySend yX2_maySend ∈ se_all := se_inS (y := yX2_maySend) (n := 13) (by decide +kernel)
theorem q_sel_X5_makeAgain : Cond.selects RX5 yX5_makeAgain yX5_makeAgain ∈ se_all := se_inS (y := yX5_makeAgain) (n := 12) (by decide +kernel)
theorem q_sel_X5_makeOpen : Cond.selects RX5 yX5_makeOpen yX5_makeOpen ∈ se_all := se_inS (y := yX5_makeOpen) (n := 12) (by decide +kernel)
theorem q_sel_X5_makeReset : Cond.selects RX5 yX5_makeReset yX5_makeReset ∈ se_all := se_inS (y := yX5_makeReset) (n := 12) (by decide +kernel)
theorem q_sel_X2_windowIsOlderThan : Cond.selects RX2 yX2_windowIsOlderThan yX2_windowIsOlderThan ∈ se_all := se_inS (y := yX2_windowIsOlderThan) (n := 13) (by decide +kernel)
theorem q_sel_X1_isAtLast : Cond.selects RX1 yX1_isAtLast yX1_isAtLast ∈ se_all := se_inS (y := yX1_isAtLast) (n := 8) (by decide +kernel)
theorem q_sel_X1_goOn : Cond.selects RX1 yX1_goOn yX1_goOn ∈ se_all := se_inS (y := yX1_goOn) (n := 8) (by decide +kernel)
theorem q_sel_X5_peerLeaves : Cond.selects RX5 yX5_peerLeaves yX5_peerLeaves ∈ se_all := se_inS (y := yX5_peerLeaves) (n := 12) (by decide +kernel)
theorem q_sel_X1_store : Cond.selects RX1 yX1_store yX1_store ∈ se_all := se_inS (y := yX1_store) (n := 8) (by decide +kernel)
theorem q_sel_X1_noteLast : Cond.selects RX1 yX1_noteLast yX1_noteLast ∈ se_all := se_inS (y := yX1_noteLast) (n := 8) (by decide +kernel)
theorem q_sel_X4_learn : Cond.selects RX4 yX4_learn yX4_learn ∈ se_all := se_inS (y := yX4_learn) (n := 11) (by decide +kernel)
theorem q_sel_X2_thank : Cond.selects RX2 yX2_thank yX2_thank ∈ se_all := se_inS (y := yX2_thank) (n := 13) (by decide +kernel)
theorem q_sel_X4_endMeasure : Cond.selects RX4 yX4_endMeasure yX4_endMeasure ∈ se_all := se_inS (y := yX4_endMeasure) (n := 11) (by decide +kernel)
theorem q_sel_X3_size : Cond.selects RX3 yX3_size yX3_size ∈ se_all := se_inS (y := yX3_size) (n := 7) (by decide +kernel)
theorem q_sel_X0_resetIs : Cond.selects RX0 yX0_resetIs yX0_resetIs ∈ se_all := se_inS (y := yX0_resetIs) (n := 9) (by decide +kernel)
theorem q_sel_X5_takeWindow : Cond.selects RX5 yX5_takeWindow yX5_takeWindow ∈ se_all := se_inS (y := yX5_takeWindow) (n := 12) (by decide +kernel)
theorem q_sel_X2_lastIsThanked : Cond.selects RX2 yX2_lastIsThanked yX2_lastIsThanked ∈ se_all := se_inS (y := yX2_lastIsThanked) (n := 13) (by decide +kernel)
theorem q_sel_X5_takeBytes : Cond.selects RX5 yX5_takeBytes yX5_takeBytes ∈ se_all := se_inS (y := yX5_takeBytes) (n := 12) (by decide +kernel)
theorem q_sel_X5_leave : Cond.selects RX5 yX5_leave yX5_leave ∈ se_all := se_inS (y := yX5_leave) (n := 12) (by decide +kernel)
theorem q_sel_X5_takeThanked : Cond.selects RX5 yX5_takeThanked yX5_takeThanked ∈ se_all := se_inS (y := yX5_takeThanked) (n := 12) (by decide +kernel)
theorem q_sel_X5_answerWithReset : Cond.selects RX5 yX5_answerWithReset yX5_answerWithReset ∈ se_all := se_inS (y := yX5_answerWithReset) (n := 12) (by decide +kernel)
theorem q_sel_X5_startStream : Cond.selects RX5 yX5_startStream yX5_startStream ∈ se_all := se_inS (y := yX5_startStream) (n := 12) (by decide +kernel)
theorem q_sel_X1_open : Cond.selects RX1 yX1_open yX1_open ∈ se_all := se_inS (y := yX1_open) (n := 8) (by decide +kernel)
theorem q_sel_X5_takeOpen : Cond.selects RX5 yX5_takeOpen yX5_takeOpen ∈ se_all := se_inS (y := yX5_takeOpen) (n := 12) (by decide +kernel)
theorem q_sel_X5_isEnded : Cond.selects RX5 yX5_isEnded yX5_isEnded ∈ se_all := se_inS (y := yX5_isEnded) (n := 12) (by decide +kernel)
theorem q_sel_X1_fits : Cond.selects RX1 yX1_fits yX1_fits ∈ se_all := se_inS (y := yX1_fits) (n := 8) (by decide +kernel)
theorem q_sel_X5_takeInStream : Cond.selects RX5 yX5_takeInStream yX5_takeInStream ∈ se_all := se_inS (y := yX5_takeInStream) (n := 12) (by decide +kernel)
theorem q_sel_X5_takeReset : Cond.selects RX5 yX5_takeReset yX5_takeReset ∈ se_all := se_inS (y := yX5_takeReset) (n := 12) (by decide +kernel)
theorem q_sel_X5_takeMisfit : Cond.selects RX5 yX5_takeMisfit yX5_takeMisfit ∈ se_all := se_inS (y := yX5_takeMisfit) (n := 12) (by decide +kernel)
theorem q_sel_X5_takeWhenAsking : Cond.selects RX5 yX5_takeWhenAsking yX5_takeWhenAsking ∈ se_all := se_inS (y := yX5_takeWhenAsking) (n := 12) (by decide +kernel)
theorem q_sel_X5_takeWhenListening : Cond.selects RX5 yX5_takeWhenListening yX5_takeWhenListening ∈ se_all := se_inS (y := yX5_takeWhenListening) (n := 12) (by decide +kernel)
def se_nest : List Cond := [(Jvm.Cond.fieldLinkNest "StreamEnd" (296 : Nat) "StreamEnd$Outgoing" "first" "I" "StreamEnd"),
  (Jvm.Cond.fieldLinkNest "StreamEnd" (137 : Nat) "StreamEnd$Outgoing" "next" "I" "StreamEnd"),
  (Jvm.Cond.fieldLinkNest "StreamEnd" (173 : Nat) "StreamEnd$Due" "open" "Z" "StreamEnd"),
  (Jvm.Cond.methodLinkNest "StreamEnd" (285 : Nat) ({ cls := "StreamEnd$Outgoing", name := "restart", desc := "(II)V" } : Jvm.MethodName) "StreamEnd"),
  (Jvm.Cond.methodLinkNest "StreamEnd" (289 : Nat) ({ cls := "StreamEnd$Incoming", name := "restart", desc := "()V" } : Jvm.MethodName) "StreamEnd"),
  (Jvm.Cond.methodLinkNest "StreamEnd" (291 : Nat) ({ cls := "StreamEnd$Watch", name := "restart", desc := "()V" } : Jvm.MethodName) "StreamEnd"),
  (Jvm.Cond.methodLinkNest "StreamEnd" (292 : Nat) ({ cls := "StreamEnd$Due", name := "restart", desc := "()V" } : Jvm.MethodName) "StreamEnd"),
  (Jvm.Cond.fieldLinkNest "StreamEnd" (155 : Nat) "StreamEnd$Watch" "alarmOn" "Z" "StreamEnd"),
  (Jvm.Cond.methodLinkNest "StreamEnd" (317 : Nat) ({ cls := "StreamEnd$Outgoing", name := "hasUnthanked", desc := "()Z" } : Jvm.MethodName) "StreamEnd"),
  (Jvm.Cond.fieldLinkNest "StreamEnd" (262 : Nat) "StreamEnd$Outgoing" "window" "I" "StreamEnd"),
  (Jvm.Cond.methodLinkNest "StreamEnd" (326 : Nat) ({ cls := "StreamEnd$Outgoing", name := "hasNew", desc := "()Z" } : Jvm.MethodName) "StreamEnd"),
  (Jvm.Cond.methodLinkNest "StreamEnd" (323 : Nat) ({ cls := "StreamEnd$Watch", name := "setAlarm", desc := "()V" } : Jvm.MethodName) "StreamEnd"),
  (Jvm.Cond.fieldLinkNest "StreamEnd" (273 : Nat) "StreamEnd$Outgoing" "piece" "I" "StreamEnd"),
  (Jvm.Cond.methodLinkNest "StreamEnd" (263 : Nat) ({ cls := "StreamEnd$Incoming", name := "room", desc := "()I" } : Jvm.MethodName) "StreamEnd"),
  (Jvm.Cond.methodLinkNest "StreamEnd" (305 : Nat) ({ cls := "StreamEnd$Incoming", name := "takeByte", desc := "()I" } : Jvm.MethodName) "StreamEnd"),
  (Jvm.Cond.fieldLinkNest "StreamEnd" (206 : Nat) "StreamEnd$Due" "thanks" "Z" "StreamEnd"),
  (Jvm.Cond.fieldLinkNest "StreamEnd" (150 : Nat) "StreamEnd$Watch" "time" "I" "StreamEnd"),
  (Jvm.Cond.methodLinkNest "StreamEnd" (299 : Nat) ({ cls := "StreamEnd$Due", name := "dropStream", desc := "()V" } : Jvm.MethodName) "StreamEnd"),
  (Jvm.Cond.methodLinkNest "StreamEnd" (320 : Nat) ({ cls := "StreamEnd$Watch", name := "doubleWait", desc := "()V" } : Jvm.MethodName) "StreamEnd"),
  (Jvm.Cond.fieldLinkNest "StreamEnd" (270 : Nat) "StreamEnd$Watch" "tries" "I" "StreamEnd"),
  (Jvm.Cond.fieldLinkNest "StreamEnd" (200 : Nat) "StreamEnd$Due" "probe" "Z" "StreamEnd"),
  (Jvm.Cond.fieldLinkNest "StreamEnd" (179 : Nat) "StreamEnd$Due" "again" "Z" "StreamEnd"),
  (Jvm.Cond.fieldLinkNest "StreamEnd" (311 : Nat) "StreamEnd$Watch" "alarmAt" "I" "StreamEnd"),
  (Jvm.Cond.methodLinkNest "StreamEnd$Outgoing" (80 : Nat) ({ cls := "StreamEnd$Segment", name := "append", desc := "(B)V" } : Jvm.MethodName) "StreamEnd"),
  (Jvm.Cond.fieldLinkNest "StreamEnd$Outgoing" (77 : Nat) "StreamEnd$Segment" "count" "I" "StreamEnd"),
  (Jvm.Cond.fieldLinkNest "StreamEnd" (365 : Nat) "StreamEnd$Incoming" "opened" "Z" "StreamEnd"),
  (Jvm.Cond.fieldLinkNest "StreamEnd" (140 : Nat) "StreamEnd$Incoming" "expected" "I" "StreamEnd"),
  (Jvm.Cond.methodLinkNest "StreamEnd" (252 : Nat) ({ cls := "StreamEnd$Segment", name := "headIs", desc := "(IIIII)V" } : Jvm.MethodName) "StreamEnd"),
  (Jvm.Cond.methodLinkNest "StreamEnd" (368 : Nat) ({ cls := "StreamEnd$Outgoing", name := "copyTo", desc := "(LStreamEnd$Segment;II)V" } : Jvm.MethodName) "StreamEnd"),
  (Jvm.Cond.fieldLinkNest "StreamEnd" (353 : Nat) "StreamEnd$Outgoing" "sent" "I" "StreamEnd"),
  (Jvm.Cond.methodLinkNest "StreamEnd" (362 : Nat) ({ cls := "StreamEnd$Outgoing", name := "wasSent", desc := "(IZ)V" } : Jvm.MethodName) "StreamEnd"),
  (Jvm.Cond.methodLinkNest "StreamEnd" (347 : Nat) ({ cls := "StreamEnd$Watch", name := "measure", desc := "(I)V" } : Jvm.MethodName) "StreamEnd"),
  (Jvm.Cond.methodLinkNest "StreamEnd" (350 : Nat) ({ cls := "StreamEnd$Watch", name := "setAlarmIfOff", desc := "()V" } : Jvm.MethodName) "StreamEnd"),
  (Jvm.Cond.methodLinkNest "StreamEnd" (359 : Nat) ({ cls := "StreamEnd$Outgoing", name := "unsent", desc := "()I" } : Jvm.MethodName) "StreamEnd"),
  (Jvm.Cond.fieldLinkNest "StreamEnd" (356 : Nat) "StreamEnd$Outgoing" "lastSent" "Z" "StreamEnd"),
  (Jvm.Cond.fieldLinkNest "StreamEnd" (259 : Nat) "StreamEnd$Outgoing" "oldest" "I" "StreamEnd"),
  (Jvm.Cond.fieldLinkNest "StreamEnd" (344 : Nat) "StreamEnd$Watch" "measuring" "Z" "StreamEnd"),
  (Jvm.Cond.fieldLinkNest "StreamEnd" (341 : Nat) "StreamEnd$Due" "openWasSent" "Z" "StreamEnd"),
  (Jvm.Cond.fieldLinkNest "StreamEnd" (167 : Nat) "StreamEnd$Due" "reset" "Z" "StreamEnd"),
  (Jvm.Cond.fieldLinkNest "StreamEnd" (329 : Nat) "StreamEnd$Due" "resetFlags" "I" "StreamEnd"),
  (Jvm.Cond.fieldLinkNest "StreamEnd" (332 : Nat) "StreamEnd$Due" "resetNumber" "I" "StreamEnd"),
  (Jvm.Cond.fieldLinkNest "StreamEnd" (335 : Nat) "StreamEnd$Due" "resetThanked" "I" "StreamEnd"),
  (Jvm.Cond.fieldLinkNest "StreamEnd" (230 : Nat) "StreamEnd$Segment" "count" "I" "StreamEnd"),
  (Jvm.Cond.methodLinkNest "StreamEnd" (338 : Nat) ({ cls := "StreamEnd$Segment", name := "has", desc := "(I)Z" } : Jvm.MethodName) "StreamEnd"),
  (Jvm.Cond.methodLinkNest "StreamEnd" (188 : Nat) ({ cls := "StreamEnd$Outgoing", name := "maySend", desc := "()Z" } : Jvm.MethodName) "StreamEnd"),
  (Jvm.Cond.methodLinkNest "StreamEnd" (191 : Nat) ({ cls := "StreamEnd$Outgoing", name := "newBytes", desc := "()I" } : Jvm.MethodName) "StreamEnd"),
  (Jvm.Cond.methodLinkNest "StreamEnd" (194 : Nat) ({ cls := "StreamEnd$Outgoing", name := "newHasLast", desc := "()Z" } : Jvm.MethodName) "StreamEnd"),
  (Jvm.Cond.fieldLinkNest "StreamEnd$Outgoing" (90 : Nat) "StreamEnd$Segment" "number" "I" "StreamEnd"),
  (Jvm.Cond.methodLinkNest "StreamEnd$Outgoing" (93 : Nat) ({ cls := "StreamEnd", name := "isBefore", desc := "(II)Z" } : Jvm.MethodName) "StreamEnd"),
  (Jvm.Cond.fieldLinkNest "StreamEnd$Outgoing" (97 : Nat) "StreamEnd$Segment" "thanked" "I" "StreamEnd"),
  (Jvm.Cond.methodLinkNest "StreamEnd$Outgoing" (100 : Nat) ({ cls := "StreamEnd", name := "isNotBehind", desc := "(II)Z" } : Jvm.MethodName) "StreamEnd"),
  (Jvm.Cond.fieldLinkNest "StreamEnd" (226 : Nat) "StreamEnd$Segment" "window" "I" "StreamEnd"),
  (Jvm.Cond.fieldLinkNest "StreamEnd" (223 : Nat) "StreamEnd$Segment" "thanked" "I" "StreamEnd"),
  (Jvm.Cond.methodLinkNest "StreamEnd" (429 : Nat) ({ cls := "StreamEnd$Outgoing", name := "windowIsOlderThan", desc := "(LStreamEnd$Segment;)Z" } : Jvm.MethodName) "StreamEnd"),
  (Jvm.Cond.fieldLinkNest "StreamEnd" (220 : Nat) "StreamEnd$Segment" "number" "I" "StreamEnd"),
  (Jvm.Cond.methodLinkNest "StreamEnd" (405 : Nat) ({ cls := "StreamEnd$Outgoing", name := "windowIs", desc := "(III)V" } : Jvm.MethodName) "StreamEnd"),
  (Jvm.Cond.fieldLinkNest "StreamEnd$Incoming" (48 : Nat) "StreamEnd$Segment" "number" "I" "StreamEnd"),
  (Jvm.Cond.fieldLinkNest "StreamEnd$Incoming" (65 : Nat) "StreamEnd$Segment" "bytes" "[B" "StreamEnd"),
  (Jvm.Cond.fieldLinkNest "StreamEnd$Incoming" (59 : Nat) "StreamEnd$Segment" "count" "I" "StreamEnd"),
  (Jvm.Cond.methodLinkNest "StreamEnd" (440 : Nat) ({ cls := "StreamEnd$Incoming", name := "goOn", desc := "()V" } : Jvm.MethodName) "StreamEnd"),
  (Jvm.Cond.fieldLinkNest "StreamEnd" (125 : Nat) "StreamEnd$Incoming" "over" "Z" "StreamEnd"),
  (Jvm.Cond.methodLinkNest "StreamEnd" (433 : Nat) ({ cls := "StreamEnd$Incoming", name := "store", desc := "(LStreamEnd$Segment;)V" } : Jvm.MethodName) "StreamEnd"),
  (Jvm.Cond.methodLinkNest "StreamEnd" (437 : Nat) ({ cls := "StreamEnd$Incoming", name := "noteLast", desc := "(I)V" } : Jvm.MethodName) "StreamEnd"),
  (Jvm.Cond.methodLinkNest "StreamEnd$Watch" (53 : Nat) ({ cls := "StreamEnd", name := "isNotBehind", desc := "(II)Z" } : Jvm.MethodName) "StreamEnd"),
  (Jvm.Cond.methodLinkNest "StreamEnd" (423 : Nat) ({ cls := "StreamEnd$Outgoing", name := "thank", desc := "(I)V" } : Jvm.MethodName) "StreamEnd"),
  (Jvm.Cond.methodLinkNest "StreamEnd" (426 : Nat) ({ cls := "StreamEnd$Watch", name := "endMeasure", desc := "(I)V" } : Jvm.MethodName) "StreamEnd"),
  (Jvm.Cond.methodLinkNest "StreamEnd" (381 : Nat) ({ cls := "StreamEnd$Segment", name := "size", desc := "()I" } : Jvm.MethodName) "StreamEnd"),
  (Jvm.Cond.methodLinkNest "StreamEnd" (143 : Nat) ({ cls := "StreamEnd$Due", name := "resetIs", desc := "(III)V" } : Jvm.MethodName) "StreamEnd"),
  (Jvm.Cond.methodLinkNest "StreamEnd" (414 : Nat) ({ cls := "StreamEnd$Outgoing", name := "lastIsThanked", desc := "()Z" } : Jvm.MethodName) "StreamEnd"),
  (Jvm.Cond.fieldLinkNest "StreamEnd" (93 : Nat) "StreamEnd$Outgoing" "closed" "Z" "StreamEnd"),
  (Jvm.Cond.methodLinkNest "StreamEnd" (403 : Nat) ({ cls := "StreamEnd$Incoming", name := "open", desc := "(I)V" } : Jvm.MethodName) "StreamEnd"),
  (Jvm.Cond.fieldLinkNest "StreamEnd" (229 : Nat) "StreamEnd$Segment" "largest" "I" "StreamEnd"),
  (Jvm.Cond.methodLinkNest "StreamEnd" (384 : Nat) ({ cls := "StreamEnd$Incoming", name := "fits", desc := "(II)Z" } : Jvm.MethodName) "StreamEnd")]
abbrev se_ZN : State → Prop := se_N se_nest
theorem se_ZN_ok : se_Zok se_ZN := se_N_ok se_nest
theorem nX5_f296 : (Jvm.Cond.fieldLinkNest "StreamEnd" (296 : Nat) "StreamEnd$Outgoing" "first" "I" "StreamEnd") ∈ se_nest := by decide +kernel
theorem nX5_f137 : (Jvm.Cond.fieldLinkNest "StreamEnd" (137 : Nat) "StreamEnd$Outgoing" "next" "I" "StreamEnd") ∈ se_nest := by decide +kernel
theorem nX5_f173 : (Jvm.Cond.fieldLinkNest "StreamEnd" (173 : Nat) "StreamEnd$Due" "open" "Z" "StreamEnd") ∈ se_nest := by decide +kernel
theorem nX5_m285 : (Jvm.Cond.methodLinkNest "StreamEnd" (285 : Nat) ({ cls := "StreamEnd$Outgoing", name := "restart", desc := "(II)V" } : Jvm.MethodName) "StreamEnd") ∈ se_nest := by decide +kernel
theorem nX5_m289 : (Jvm.Cond.methodLinkNest "StreamEnd" (289 : Nat) ({ cls := "StreamEnd$Incoming", name := "restart", desc := "()V" } : Jvm.MethodName) "StreamEnd") ∈ se_nest := by decide +kernel
theorem nX5_m291 : (Jvm.Cond.methodLinkNest "StreamEnd" (291 : Nat) ({ cls := "StreamEnd$Watch", name := "restart", desc := "()V" } : Jvm.MethodName) "StreamEnd") ∈ se_nest := by decide +kernel
theorem nX5_m292 : (Jvm.Cond.methodLinkNest "StreamEnd" (292 : Nat) ({ cls := "StreamEnd$Due", name := "restart", desc := "()V" } : Jvm.MethodName) "StreamEnd") ∈ se_nest := by decide +kernel
theorem nX5_f155 : (Jvm.Cond.fieldLinkNest "StreamEnd" (155 : Nat) "StreamEnd$Watch" "alarmOn" "Z" "StreamEnd") ∈ se_nest := by decide +kernel
theorem nX5_m317 : (Jvm.Cond.methodLinkNest "StreamEnd" (317 : Nat) ({ cls := "StreamEnd$Outgoing", name := "hasUnthanked", desc := "()Z" } : Jvm.MethodName) "StreamEnd") ∈ se_nest := by decide +kernel
theorem nX5_f262 : (Jvm.Cond.fieldLinkNest "StreamEnd" (262 : Nat) "StreamEnd$Outgoing" "window" "I" "StreamEnd") ∈ se_nest := by decide +kernel
theorem nX5_m326 : (Jvm.Cond.methodLinkNest "StreamEnd" (326 : Nat) ({ cls := "StreamEnd$Outgoing", name := "hasNew", desc := "()Z" } : Jvm.MethodName) "StreamEnd") ∈ se_nest := by decide +kernel
theorem nX5_m323 : (Jvm.Cond.methodLinkNest "StreamEnd" (323 : Nat) ({ cls := "StreamEnd$Watch", name := "setAlarm", desc := "()V" } : Jvm.MethodName) "StreamEnd") ∈ se_nest := by decide +kernel
theorem nX5_f273 : (Jvm.Cond.fieldLinkNest "StreamEnd" (273 : Nat) "StreamEnd$Outgoing" "piece" "I" "StreamEnd") ∈ se_nest := by decide +kernel
theorem nX5_m263 : (Jvm.Cond.methodLinkNest "StreamEnd" (263 : Nat) ({ cls := "StreamEnd$Incoming", name := "room", desc := "()I" } : Jvm.MethodName) "StreamEnd") ∈ se_nest := by decide +kernel
theorem nX5_m305 : (Jvm.Cond.methodLinkNest "StreamEnd" (305 : Nat) ({ cls := "StreamEnd$Incoming", name := "takeByte", desc := "()I" } : Jvm.MethodName) "StreamEnd") ∈ se_nest := by decide +kernel
theorem nX5_f206 : (Jvm.Cond.fieldLinkNest "StreamEnd" (206 : Nat) "StreamEnd$Due" "thanks" "Z" "StreamEnd") ∈ se_nest := by decide +kernel
theorem nX5_f150 : (Jvm.Cond.fieldLinkNest "StreamEnd" (150 : Nat) "StreamEnd$Watch" "time" "I" "StreamEnd") ∈ se_nest := by decide +kernel
theorem nX5_m299 : (Jvm.Cond.methodLinkNest "StreamEnd" (299 : Nat) ({ cls := "StreamEnd$Due", name := "dropStream", desc := "()V" } : Jvm.MethodName) "StreamEnd") ∈ se_nest := by decide +kernel
theorem nX5_m320 : (Jvm.Cond.methodLinkNest "StreamEnd" (320 : Nat) ({ cls := "StreamEnd$Watch", name := "doubleWait", desc := "()V" } : Jvm.MethodName) "StreamEnd") ∈ se_nest := by decide +kernel
theorem nX5_f270 : (Jvm.Cond.fieldLinkNest "StreamEnd" (270 : Nat) "StreamEnd$Watch" "tries" "I" "StreamEnd") ∈ se_nest := by decide +kernel
theorem nX5_f200 : (Jvm.Cond.fieldLinkNest "StreamEnd" (200 : Nat) "StreamEnd$Due" "probe" "Z" "StreamEnd") ∈ se_nest := by decide +kernel
theorem nX5_f179 : (Jvm.Cond.fieldLinkNest "StreamEnd" (179 : Nat) "StreamEnd$Due" "again" "Z" "StreamEnd") ∈ se_nest := by decide +kernel
theorem nX5_f311 : (Jvm.Cond.fieldLinkNest "StreamEnd" (311 : Nat) "StreamEnd$Watch" "alarmAt" "I" "StreamEnd") ∈ se_nest := by decide +kernel
theorem nX2_m80 : (Jvm.Cond.methodLinkNest "StreamEnd$Outgoing" (80 : Nat) ({ cls := "StreamEnd$Segment", name := "append", desc := "(B)V" } : Jvm.MethodName) "StreamEnd") ∈ se_nest := by decide +kernel
theorem nX2_f77 : (Jvm.Cond.fieldLinkNest "StreamEnd$Outgoing" (77 : Nat) "StreamEnd$Segment" "count" "I" "StreamEnd") ∈ se_nest := by decide +kernel
theorem nX5_f365 : (Jvm.Cond.fieldLinkNest "StreamEnd" (365 : Nat) "StreamEnd$Incoming" "opened" "Z" "StreamEnd") ∈ se_nest := by decide +kernel
theorem nX5_f140 : (Jvm.Cond.fieldLinkNest "StreamEnd" (140 : Nat) "StreamEnd$Incoming" "expected" "I" "StreamEnd") ∈ se_nest := by decide +kernel
theorem nX5_m252 : (Jvm.Cond.methodLinkNest "StreamEnd" (252 : Nat) ({ cls := "StreamEnd$Segment", name := "headIs", desc := "(IIIII)V" } : Jvm.MethodName) "StreamEnd") ∈ se_nest := by decide +kernel
theorem nX5_m368 : (Jvm.Cond.methodLinkNest "StreamEnd" (368 : Nat) ({ cls := "StreamEnd$Outgoing", name := "copyTo", desc := "(LStreamEnd$Segment;II)V" } : Jvm.MethodName) "StreamEnd") ∈ se_nest := by decide +kernel
theorem nX5_f353 : (Jvm.Cond.fieldLinkNest "StreamEnd" (353 : Nat) "StreamEnd$Outgoing" "sent" "I" "StreamEnd") ∈ se_nest := by decide +kernel
theorem nX5_m362 : (Jvm.Cond.methodLinkNest "StreamEnd" (362 : Nat) ({ cls := "StreamEnd$Outgoing", name := "wasSent", desc := "(IZ)V" } : Jvm.MethodName) "StreamEnd") ∈ se_nest := by decide +kernel
theorem nX5_m347 : (Jvm.Cond.methodLinkNest "StreamEnd" (347 : Nat) ({ cls := "StreamEnd$Watch", name := "measure", desc := "(I)V" } : Jvm.MethodName) "StreamEnd") ∈ se_nest := by decide +kernel
theorem nX5_m350 : (Jvm.Cond.methodLinkNest "StreamEnd" (350 : Nat) ({ cls := "StreamEnd$Watch", name := "setAlarmIfOff", desc := "()V" } : Jvm.MethodName) "StreamEnd") ∈ se_nest := by decide +kernel
theorem nX5_m359 : (Jvm.Cond.methodLinkNest "StreamEnd" (359 : Nat) ({ cls := "StreamEnd$Outgoing", name := "unsent", desc := "()I" } : Jvm.MethodName) "StreamEnd") ∈ se_nest := by decide +kernel
theorem nX5_f356 : (Jvm.Cond.fieldLinkNest "StreamEnd" (356 : Nat) "StreamEnd$Outgoing" "lastSent" "Z" "StreamEnd") ∈ se_nest := by decide +kernel
theorem nX5_f259 : (Jvm.Cond.fieldLinkNest "StreamEnd" (259 : Nat) "StreamEnd$Outgoing" "oldest" "I" "StreamEnd") ∈ se_nest := by decide +kernel
theorem nX5_f344 : (Jvm.Cond.fieldLinkNest "StreamEnd" (344 : Nat) "StreamEnd$Watch" "measuring" "Z" "StreamEnd") ∈ se_nest := by decide +kernel
theorem nX5_f341 : (Jvm.Cond.fieldLinkNest "StreamEnd" (341 : Nat) "StreamEnd$Due" "openWasSent" "Z" "StreamEnd") ∈ se_nest := by decide +kernel
theorem nX5_f167 : (Jvm.Cond.fieldLinkNest "StreamEnd" (167 : Nat) "StreamEnd$Due" "reset" "Z" "StreamEnd") ∈ se_nest := by decide +kernel
theorem nX5_f329 : (Jvm.Cond.fieldLinkNest "StreamEnd" (329 : Nat) "StreamEnd$Due" "resetFlags" "I" "StreamEnd") ∈ se_nest := by decide +kernel
theorem nX5_f332 : (Jvm.Cond.fieldLinkNest "StreamEnd" (332 : Nat) "StreamEnd$Due" "resetNumber" "I" "StreamEnd") ∈ se_nest := by decide +kernel
theorem nX5_f335 : (Jvm.Cond.fieldLinkNest "StreamEnd" (335 : Nat) "StreamEnd$Due" "resetThanked" "I" "StreamEnd") ∈ se_nest := by decide +kernel
theorem nX5_f230 : (Jvm.Cond.fieldLinkNest "StreamEnd" (230 : Nat) "StreamEnd$Segment" "count" "I" "StreamEnd") ∈ se_nest := by decide +kernel
theorem nX5_m338 : (Jvm.Cond.methodLinkNest "StreamEnd" (338 : Nat) ({ cls := "StreamEnd$Segment", name := "has", desc := "(I)Z" } : Jvm.MethodName) "StreamEnd") ∈ se_nest := by decide +kernel
theorem nX5_m188 : (Jvm.Cond.methodLinkNest "StreamEnd" (188 : Nat) ({ cls := "StreamEnd$Outgoing", name := "maySend", desc := "()Z" } : Jvm.MethodName) "StreamEnd") ∈ se_nest := by decide +kernel
theorem nX5_m191 : (Jvm.Cond.methodLinkNest "StreamEnd" (191 : Nat) ({ cls := "StreamEnd$Outgoing", name := "newBytes", desc := "()I" } : Jvm.MethodName) "StreamEnd") ∈ se_nest := by decide +kernel
theorem nX5_m194 : (Jvm.Cond.methodLinkNest "StreamEnd" (194 : Nat) ({ cls := "StreamEnd$Outgoing", name := "newHasLast", desc := "()Z" } : Jvm.MethodName) "StreamEnd") ∈ se_nest := by decide +kernel
theorem nX2_f90 : (Jvm.Cond.fieldLinkNest "StreamEnd$Outgoing" (90 : Nat) "StreamEnd$Segment" "number" "I" "StreamEnd") ∈ se_nest := by decide +kernel
theorem nX2_m93 : (Jvm.Cond.methodLinkNest "StreamEnd$Outgoing" (93 : Nat) ({ cls := "StreamEnd", name := "isBefore", desc := "(II)Z" } : Jvm.MethodName) "StreamEnd") ∈ se_nest := by decide +kernel
theorem nX2_f97 : (Jvm.Cond.fieldLinkNest "StreamEnd$Outgoing" (97 : Nat) "StreamEnd$Segment" "thanked" "I" "StreamEnd") ∈ se_nest := by decide +kernel
theorem nX2_m100 : (Jvm.Cond.methodLinkNest "StreamEnd$Outgoing" (100 : Nat) ({ cls := "StreamEnd", name := "isNotBehind", desc := "(II)Z" } : Jvm.MethodName) "StreamEnd") ∈ se_nest := by decide +kernel
theorem nX5_f226 : (Jvm.Cond.fieldLinkNest "StreamEnd" (226 : Nat) "StreamEnd$Segment" "window" "I" "StreamEnd") ∈ se_nest := by decide +kernel
theorem nX5_f223 : (Jvm.Cond.fieldLinkNest "StreamEnd" (223 : Nat) "StreamEnd$Segment" "thanked" "I" "StreamEnd") ∈ se_nest := by decide +kernel
theorem nX5_m429 : (Jvm.Cond.methodLinkNest "StreamEnd" (429 : Nat) ({ cls := "StreamEnd$Outgoing", name := "windowIsOlderThan", desc := "(LStreamEnd$Segment;)Z" } : Jvm.MethodName) "StreamEnd") ∈ se_nest := by decide +kernel
theorem nX5_f220 : (Jvm.Cond.fieldLinkNest "StreamEnd" (220 : Nat) "StreamEnd$Segment" "number" "I" "StreamEnd") ∈ se_nest := by decide +kernel
theorem nX5_m405 : (Jvm.Cond.methodLinkNest "StreamEnd" (405 : Nat) ({ cls := "StreamEnd$Outgoing", name := "windowIs", desc := "(III)V" } : Jvm.MethodName) "StreamEnd") ∈ se_nest := by decide +kernel
theorem nX1_f48 : (Jvm.Cond.fieldLinkNest "StreamEnd$Incoming" (48 : Nat) "StreamEnd$Segment" "number" "I" "StreamEnd") ∈ se_nest := by decide +kernel
theorem nX1_f65 : (Jvm.Cond.fieldLinkNest "StreamEnd$Incoming" (65 : Nat) "StreamEnd$Segment" "bytes" "[B" "StreamEnd") ∈ se_nest := by decide +kernel
theorem nX1_f59 : (Jvm.Cond.fieldLinkNest "StreamEnd$Incoming" (59 : Nat) "StreamEnd$Segment" "count" "I" "StreamEnd") ∈ se_nest := by decide +kernel
theorem nX5_m440 : (Jvm.Cond.methodLinkNest "StreamEnd" (440 : Nat) ({ cls := "StreamEnd$Incoming", name := "goOn", desc := "()V" } : Jvm.MethodName) "StreamEnd") ∈ se_nest := by decide +kernel
theorem nX5_f125 : (Jvm.Cond.fieldLinkNest "StreamEnd" (125 : Nat) "StreamEnd$Incoming" "over" "Z" "StreamEnd") ∈ se_nest := by decide +kernel
theorem nX5_m433 : (Jvm.Cond.methodLinkNest "StreamEnd" (433 : Nat) ({ cls := "StreamEnd$Incoming", name := "store", desc := "(LStreamEnd$Segment;)V" } : Jvm.MethodName) "StreamEnd") ∈ se_nest := by decide +kernel
theorem nX5_m437 : (Jvm.Cond.methodLinkNest "StreamEnd" (437 : Nat) ({ cls := "StreamEnd$Incoming", name := "noteLast", desc := "(I)V" } : Jvm.MethodName) "StreamEnd") ∈ se_nest := by decide +kernel
theorem nX4_m53 : (Jvm.Cond.methodLinkNest "StreamEnd$Watch" (53 : Nat) ({ cls := "StreamEnd", name := "isNotBehind", desc := "(II)Z" } : Jvm.MethodName) "StreamEnd") ∈ se_nest := by decide +kernel
theorem nX5_m423 : (Jvm.Cond.methodLinkNest "StreamEnd" (423 : Nat) ({ cls := "StreamEnd$Outgoing", name := "thank", desc := "(I)V" } : Jvm.MethodName) "StreamEnd") ∈ se_nest := by decide +kernel
theorem nX5_m426 : (Jvm.Cond.methodLinkNest "StreamEnd" (426 : Nat) ({ cls := "StreamEnd$Watch", name := "endMeasure", desc := "(I)V" } : Jvm.MethodName) "StreamEnd") ∈ se_nest := by decide +kernel
theorem nX5_m381 : (Jvm.Cond.methodLinkNest "StreamEnd" (381 : Nat) ({ cls := "StreamEnd$Segment", name := "size", desc := "()I" } : Jvm.MethodName) "StreamEnd") ∈ se_nest := by decide +kernel
theorem nX5_m143 : (Jvm.Cond.methodLinkNest "StreamEnd" (143 : Nat) ({ cls := "StreamEnd$Due", name := "resetIs", desc := "(III)V" } : Jvm.MethodName) "StreamEnd") ∈ se_nest := by decide +kernel
theorem nX5_m414 : (Jvm.Cond.methodLinkNest "StreamEnd" (414 : Nat) ({ cls := "StreamEnd$Outgoing", name := "lastIsThanked", desc := "()Z" } : Jvm.MethodName) "StreamEnd") ∈ se_nest := by decide +kernel
theorem nX5_f93 : (Jvm.Cond.fieldLinkNest "StreamEnd" (93 : Nat) "StreamEnd$Outgoing" "closed" "Z" "StreamEnd") ∈ se_nest := by decide +kernel
theorem nX5_m403 : (Jvm.Cond.methodLinkNest "StreamEnd" (403 : Nat) ({ cls := "StreamEnd$Incoming", name := "open", desc := "(I)V" } : Jvm.MethodName) "StreamEnd") ∈ se_nest := by decide +kernel
theorem nX5_f229 : (Jvm.Cond.fieldLinkNest "StreamEnd" (229 : Nat) "StreamEnd$Segment" "largest" "I" "StreamEnd") ∈ se_nest := by decide +kernel
theorem nX5_m384 : (Jvm.Cond.methodLinkNest "StreamEnd" (384 : Nat) ({ cls := "StreamEnd$Incoming", name := "fits", desc := "(II)Z" } : Jvm.MethodName) "StreamEnd") ∈ se_nest := by decide +kernel
abbrev se_w_X5_isEnded : List Cond := Cond.code yX5_isEnded cX5_isEnded 1 (Option.some FieldType.boolean) :: se_all
abbrev se_w_X2_windowIs : List Cond := Cond.code yX2_windowIs cX2_windowIs 4 (Option.none : Option FieldType) :: se_all
abbrev se_w_X2_restart : List Cond := Cond.code yX2_restart cX2_restart 3 (Option.none : Option FieldType) :: se_all
abbrev se_w_XA_fill : List Cond := Cond.code yXA_fill cXA_fill 4 (Option.none : Option FieldType) :: se_all
abbrev se_w_X1_restart : List Cond := Cond.code yX1_restart cX1_restart 1 (Option.none : Option FieldType) :: se_all
abbrev se_w_X4_restart : List Cond := Cond.code yX4_restart cX4_restart 1 (Option.none : Option FieldType) :: se_all
abbrev se_w_X0_dropStream : List Cond := Cond.code yX0_dropStream cX0_dropStream 1 (Option.none : Option FieldType) :: se_all
abbrev se_w_X0_restart : List Cond := Cond.code yX0_restart cX0_restart 1 (Option.none : Option FieldType) :: se_all
abbrev se_w_X5_openIsDue : List Cond := Cond.code yX5_openIsDue cX5_openIsDue 1 (Option.none : Option FieldType) :: se_all
abbrev se_w_X5_startStream : List Cond := Cond.code yX5_startStream cX5_startStream 3 (Option.none : Option FieldType) :: se_all
abbrev se_w_X5_begin : List Cond := Cond.code yX5_begin cX5_begin 3 (Option.none : Option FieldType) :: se_all
abbrev se_w_X5_isHandful : List Cond := Cond.code yX5_isHandful cX5_isHandful 1 (Option.some FieldType.boolean) :: se_all
abbrev se_w_X2_space : List Cond := Cond.code yX2_space cX2_space 1 (Option.some FieldType.int) :: se_all
abbrev se_w_X5_maySendNew : List Cond := Cond.code yX5_maySendNew cX5_maySendNew 1 (Option.some FieldType.boolean) :: se_all
abbrev se_w_X2_hasUnthanked : List Cond := Cond.code yX2_hasUnthanked cX2_hasUnthanked 1 (Option.some FieldType.boolean) :: se_all
abbrev se_w_X2_unsent : List Cond := Cond.code yX2_unsent cX2_unsent 1 (Option.some FieldType.int) :: se_all
abbrev se_w_X2_hasNew : List Cond := Cond.code yX2_hasNew cX2_hasNew 1 (Option.some FieldType.boolean) :: se_all
abbrev se_w_X4_setAlarm : List Cond := Cond.code yX4_setAlarm cX4_setAlarm 1 (Option.none : Option FieldType) :: se_all
abbrev se_w_X5_watchClosedWindow : List Cond := Cond.code yX5_watchClosedWindow cX5_watchClosedWindow 1 (Option.none : Option FieldType) :: se_all
abbrev se_w_X5_byteOf : List Cond := Cond.code yX5_byteOf cX5_byteOf 4 (Option.some FieldType.byte) :: se_all
abbrev se_w_X2_append : List Cond := Cond.code yX2_append cX2_append 2 (Option.none : Option FieldType) :: se_all
abbrev se_w_X5_write : List Cond := Cond.code yX5_write cX5_write 6 (Option.some FieldType.int) :: se_all
abbrev se_w_X1_room : List Cond := Cond.code yX1_room cX1_room 1 (Option.some FieldType.int) :: se_all
abbrev se_w_X1_takeByte : List Cond := Cond.code yX1_takeByte cX1_takeByte 3 (Option.some FieldType.int) :: se_all
abbrev se_w_X5_mayTakeBytes : List Cond := Cond.code yX5_mayTakeBytes cX5_mayTakeBytes 1 (Option.some FieldType.boolean) :: se_all
abbrev se_w_X5_readByte : List Cond := Cond.code yX5_readByte cX5_readByte 4 (Option.some FieldType.int) :: se_all
abbrev se_w_X5_read : List Cond := Cond.code yX5_read cX5_read 1 (Option.some FieldType.int) :: se_all
abbrev se_w_X5_beginQuiet : List Cond := Cond.code yX5_beginQuiet cX5_beginQuiet 1 (Option.none : Option FieldType) :: se_all
abbrev se_w_X5_halt : List Cond := Cond.code yX5_halt cX5_halt 2 (Option.none : Option FieldType) :: se_all
abbrev se_w_X5_close : List Cond := Cond.code yX5_close cX5_close 1 (Option.none : Option FieldType) :: se_all
abbrev se_w_X0_resetIs : List Cond := Cond.code yX0_resetIs cX0_resetIs 4 (Option.none : Option FieldType) :: se_all
abbrev se_w_X5_abort : List Cond := Cond.code yX5_abort cX5_abort 1 (Option.none : Option FieldType) :: se_all
abbrev se_w_X4_ticksToAlarm : List Cond := Cond.code yX4_ticksToAlarm cX4_ticksToAlarm 1 (Option.some FieldType.int) :: se_all
abbrev se_w_X4_doubleWait : List Cond := Cond.code yX4_doubleWait cX4_doubleWait 1 (Option.none : Option FieldType) :: se_all
abbrev se_w_X5_takeAlarm : List Cond := Cond.code yX5_takeAlarm cX5_takeAlarm 1 (Option.none : Option FieldType) :: se_all
abbrev se_w_X5_takeEvents : List Cond := Cond.code yX5_takeEvents cX5_takeEvents 1 (Option.none : Option FieldType) :: se_all
abbrev se_w_X5_run : List Cond := Cond.code yX5_run cX5_run 4 (Option.some FieldType.int) :: se_all
abbrev se_w_X3_headIs : List Cond := Cond.code yX3_headIs cX3_headIs 6 (Option.none : Option FieldType) :: se_all
abbrev se_w_X3_append : List Cond := Cond.code yX3_append cX3_append 2 (Option.none : Option FieldType) :: se_all
abbrev se_w_X2_copyTo : List Cond := Cond.code yX2_copyTo cX2_copyTo 5 (Option.none : Option FieldType) :: se_all
abbrev se_w_X5_make : List Cond := Cond.code yX5_make cX5_make 7 (Option.none : Option FieldType) :: se_all
abbrev se_w_X2_wasSent : List Cond := Cond.code yX2_wasSent cX2_wasSent 3 (Option.none : Option FieldType) :: se_all
abbrev se_w_X4_measure : List Cond := Cond.code yX4_measure cX4_measure 2 (Option.none : Option FieldType) :: se_all
abbrev se_w_X4_setAlarmIfOff : List Cond := Cond.code yX4_setAlarmIfOff cX4_setAlarmIfOff 1 (Option.none : Option FieldType) :: se_all
abbrev se_w_X5_makeNew : List Cond := Cond.code yX5_makeNew cX5_makeNew 3 (Option.none : Option FieldType) :: se_all
abbrev se_w_X5_makeProbe : List Cond := Cond.code yX5_makeProbe cX5_makeProbe 2 (Option.none : Option FieldType) :: se_all
abbrev se_w_X2_allowed : List Cond := Cond.code yX2_allowed cX2_allowed 1 (Option.some FieldType.int) :: se_all
abbrev se_w_X2_newBytes : List Cond := Cond.code yX2_newBytes cX2_newBytes 1 (Option.some FieldType.int) :: se_all
abbrev se_w_X2_newHasLast : List Cond := Cond.code yX2_newHasLast cX2_newHasLast 2 (Option.some FieldType.boolean) :: se_all
abbrev se_w_X2_maySend : List Cond := Cond.code yX2_maySend cX2_maySend 1 (Option.some FieldType.boolean) :: se_all
abbrev se_w_X5_makeAgain : List Cond := Cond.code yX5_makeAgain cX5_makeAgain 3 (Option.none : Option FieldType) :: se_all
abbrev se_w_X5_makeOpen : List Cond := Cond.code yX5_makeOpen cX5_makeOpen 1 (Option.none : Option FieldType) :: se_all
abbrev se_w_X3_has : List Cond := Cond.code yX3_has cX3_has 2 (Option.some FieldType.boolean) :: se_all
abbrev se_w_X5_makeReset : List Cond := Cond.code yX5_makeReset cX5_makeReset 1 (Option.none : Option FieldType) :: se_all
abbrev se_w_X5_next : List Cond := Cond.code yX5_next cX5_next 1 (Option.some FieldType.boolean) :: se_all
abbrev se_w_X5_segment : List Cond := Cond.code yX5_segment cX5_segment 2 (Option.some FieldType.int) :: se_all
abbrev se_w_X5_byteAt : List Cond := Cond.code yX5_byteAt cX5_byteAt 2 (Option.some FieldType.int) :: se_all
abbrev se_w_X5_feed : List Cond := Cond.code yX5_feed cX5_feed 5 (Option.some FieldType.int) :: se_all
abbrev se_w_X5_isWidth : List Cond := Cond.code yX5_isWidth cX5_isWidth 1 (Option.some FieldType.boolean) :: se_all
abbrev se_w_X3_size : List Cond := Cond.code yX3_size cX3_size 1 (Option.some FieldType.int) :: se_all
abbrev se_w_X1_fits : List Cond := Cond.code yX1_fits cX1_fits 4 (Option.some FieldType.boolean) :: se_all
abbrev se_w_X5_isBefore : List Cond := Cond.code yX5_isBefore cX5_isBefore 2 (Option.some FieldType.boolean) :: se_all
abbrev se_w_X5_isNotBehind : List Cond := Cond.code yX5_isNotBehind cX5_isNotBehind 2 (Option.some FieldType.boolean) :: se_all
abbrev se_w_X2_windowIsOlderThan : List Cond := Cond.code yX2_windowIsOlderThan cX2_windowIsOlderThan 2 (Option.some FieldType.boolean) :: se_all
abbrev se_w_X5_takeWindow : List Cond := Cond.code yX5_takeWindow cX5_takeWindow 2 (Option.none : Option FieldType) :: se_all
abbrev se_w_X2_lastIsThanked : List Cond := Cond.code yX2_lastIsThanked cX2_lastIsThanked 1 (Option.some FieldType.boolean) :: se_all
abbrev se_w_X1_store : List Cond := Cond.code yX1_store cX1_store 7 (Option.none : Option FieldType) :: se_all
abbrev se_w_X1_isAtLast : List Cond := Cond.code yX1_isAtLast cX1_isAtLast 1 (Option.some FieldType.boolean) :: se_all
abbrev se_w_X1_goOn : List Cond := Cond.code yX1_goOn cX1_goOn 1 (Option.none : Option FieldType) :: se_all
abbrev se_w_X5_peerLeaves : List Cond := Cond.code yX5_peerLeaves cX5_peerLeaves 1 (Option.none : Option FieldType) :: se_all
abbrev se_w_X1_noteLast : List Cond := Cond.code yX1_noteLast cX1_noteLast 3 (Option.none : Option FieldType) :: se_all
abbrev se_w_X5_takeBytes : List Cond := Cond.code yX5_takeBytes cX5_takeBytes 2 (Option.none : Option FieldType) :: se_all
abbrev se_w_X5_leave : List Cond := Cond.code yX5_leave cX5_leave 1 (Option.none : Option FieldType) :: se_all
abbrev se_w_X2_thank : List Cond := Cond.code yX2_thank cX2_thank 3 (Option.none : Option FieldType) :: se_all
abbrev se_w_X4_learn : List Cond := Cond.code yX4_learn cX4_learn 3 (Option.none : Option FieldType) :: se_all
abbrev se_w_X4_endMeasure : List Cond := Cond.code yX4_endMeasure cX4_endMeasure 2 (Option.none : Option FieldType) :: se_all
abbrev se_w_X5_takeThanked : List Cond := Cond.code yX5_takeThanked cX5_takeThanked 1 (Option.none : Option FieldType) :: se_all
abbrev se_w_X5_answerWithReset : List Cond := Cond.code yX5_answerWithReset cX5_answerWithReset 1 (Option.none : Option FieldType) :: se_all
abbrev se_w_X5_takeInStream : List Cond := Cond.code yX5_takeInStream cX5_takeInStream 1 (Option.none : Option FieldType) :: se_all
abbrev se_w_X5_takeReset : List Cond := Cond.code yX5_takeReset cX5_takeReset 1 (Option.none : Option FieldType) :: se_all
abbrev se_w_X5_takeMisfit : List Cond := Cond.code yX5_takeMisfit cX5_takeMisfit 1 (Option.none : Option FieldType) :: se_all
abbrev se_w_X1_open : List Cond := Cond.code yX1_open cX1_open 2 (Option.none : Option FieldType) :: se_all
abbrev se_w_X5_takeOpen : List Cond := Cond.code yX5_takeOpen cX5_takeOpen 3 (Option.none : Option FieldType) :: se_all
abbrev se_w_X5_takeWhenAsking : List Cond := Cond.code yX5_takeWhenAsking cX5_takeWhenAsking 2 (Option.none : Option FieldType) :: se_all
abbrev se_w_X5_takeWhenListening : List Cond := Cond.code yX5_takeWhenListening cX5_takeWhenListening 1 (Option.none : Option FieldType) :: se_all
abbrev se_w_X5_takeSegment : List Cond := Cond.code yX5_takeSegment cX5_takeSegment 1 (Option.none : Option FieldType) :: se_all
abbrev se_w_X5_arrive : List Cond := Cond.code yX5_arrive cX5_arrive 6 (Option.some FieldType.int) :: se_all
abbrev se_w_X5_state : List Cond := Cond.code yX5_state cX5_state 1 (Option.some FieldType.int) :: se_all
abbrev se_w_X5_figure : List Cond := Cond.code yX5_figure cX5_figure 2 (Option.some FieldType.int) :: se_all
end
section
/-! written by program (wip/gen) -/
theorem dX5_isEnded_0 : decode cX5_isEnded 0 = .ok (.aload_n 0, 1) := by decide +kernel
theorem dX5_isEnded_1 : decode cX5_isEnded 1 = .ok (.getfield 60, 3) := by decide +kernel
theorem dX5_isEnded_4 : decode cX5_isEnded 4 = .ok (.ifCond .eq 12, 3) := by decide +kernel
theorem dX5_isEnded_7 : decode cX5_isEnded 7 = .ok (.aload_n 0, 1) := by decide +kernel
theorem dX5_isEnded_8 : decode cX5_isEnded 8 = .ok (.getfield 60, 3) := by decide +kernel
theorem dX5_isEnded_11 : decode cX5_isEnded 11 = .ok (.bipush 11, 2) := by decide +kernel
theorem dX5_isEnded_13 : decode cX5_isEnded 13 = .ok (.if_icmp .ne 7, 3) := by decide +kernel
theorem dX5_isEnded_16 : decode cX5_isEnded 16 = .ok (.iconst 1, 1) := by decide +kernel
theorem dX5_isEnded_17 : decode cX5_isEnded 17 = .ok (.goto 4, 3) := by decide +kernel
theorem dX5_isEnded_20 : decode cX5_isEnded 20 = .ok (.iconst 0, 1) := by decide +kernel
theorem dX5_isEnded_21 : decode cX5_isEnded 21 = .ok (.ireturn, 1) := by decide +kernel
theorem dX2_windowIs_0 : decode cX2_windowIs 0 = .ok (.aload_n 0, 1) := by decide +kernel
theorem dX2_windowIs_1 : decode cX2_windowIs 1 = .ok (.iload_n 1, 1) := by decide +kernel
theorem dX2_windowIs_2 : decode cX2_windowIs 2 = .ok (.putfield 56, 3) := by decide +kernel
theorem dX2_windowIs_5 : decode cX2_windowIs 5 = .ok (.aload_n 0, 1) := by decide +kernel
theorem dX2_windowIs_6 : decode cX2_windowIs 6 = .ok (.iload_n 2, 1) := by decide +kernel
theorem dX2_windowIs_7 : decode cX2_windowIs 7 = .ok (.putfield 84, 3) := by decide +kernel
theorem dX2_windowIs_10 : decode cX2_windowIs 10 = .ok (.aload_n 0, 1) := by decide +kernel
theorem dX2_windowIs_11 : decode cX2_windowIs 11 = .ok (.iload_n 3, 1) := by decide +kernel
theorem dX2_windowIs_12 : decode cX2_windowIs 12 = .ok (.putfield 87, 3) := by decide +kernel
theorem dX2_windowIs_15 : decode cX2_windowIs 15 = .ok (.return_, 1) := by decide +kernel
theorem dX2_restart_0 : decode cX2_restart 0 = .ok (.aload_n 0, 1) := by decide +kernel
theorem dX2_restart_1 : decode cX2_restart 1 = .ok (.iconst 0, 1) := by decide +kernel
theorem dX2_restart_2 : decode cX2_restart 2 = .ok (.putfield 19, 3) := by decide +kernel
theorem dX2_restart_5 : decode cX2_restart 5 = .ok (.aload_n 0, 1) := by decide +kernel
theorem dX2_restart_6 : decode cX2_restart 6 = .ok (.iconst 0, 1) := by decide +kernel
theorem dX2_restart_7 : decode cX2_restart 7 = .ok (.putfield 22, 3) := by decide +kernel
theorem dX2_restart_10 : decode cX2_restart 10 = .ok (.aload_n 0, 1) := by decide +kernel
theorem dX2_restart_11 : decode cX2_restart 11 = .ok (.iconst 0, 1) := by decide +kernel
theorem dX2_restart_12 : decode cX2_restart 12 = .ok (.putfield 25, 3) := by decide +kernel
theorem dX2_restart_15 : decode cX2_restart 15 = .ok (.aload_n 0, 1) := by decide +kernel
theorem dX2_restart_16 : decode cX2_restart 16 = .ok (.iload_n 1, 1) := by decide +kernel
theorem dX2_restart_17 : decode cX2_restart 17 = .ok (.putfield 28, 3) := by decide +kernel
theorem dX2_restart_20 : decode cX2_restart 20 = .ok (.aload_n 0, 1) := by decide +kernel
theorem dX2_restart_21 : decode cX2_restart 21 = .ok (.iload_n 1, 1) := by decide +kernel
theorem dX2_restart_22 : decode cX2_restart 22 = .ok (.putfield 31, 3) := by decide +kernel
theorem dX2_restart_25 : decode cX2_restart 25 = .ok (.aload_n 0, 1) := by decide +kernel
theorem dX2_restart_26 : decode cX2_restart 26 = .ok (.iload_n 1, 1) := by decide +kernel
theorem dX2_restart_27 : decode cX2_restart 27 = .ok (.putfield 34, 3) := by decide +kernel
theorem dX2_restart_30 : decode cX2_restart 30 = .ok (.aload_n 0, 1) := by decide +kernel
theorem dX2_restart_31 : decode cX2_restart 31 = .ok (.iconst 0, 1) := by decide +kernel
theorem dX2_restart_32 : decode cX2_restart 32 = .ok (.putfield 37, 3) := by decide +kernel
theorem dX2_restart_35 : decode cX2_restart 35 = .ok (.aload_n 0, 1) := by decide +kernel
theorem dX2_restart_36 : decode cX2_restart 36 = .ok (.iconst 0, 1) := by decide +kernel
theorem dX2_restart_37 : decode cX2_restart 37 = .ok (.putfield 41, 3) := by decide +kernel
theorem dX2_restart_40 : decode cX2_restart 40 = .ok (.aload_n 0, 1) := by decide +kernel
theorem dX2_restart_41 : decode cX2_restart 41 = .ok (.iload_n 2, 1) := by decide +kernel
theorem dX2_restart_42 : decode cX2_restart 42 = .ok (.putfield 15, 3) := by decide +kernel
theorem dX2_restart_45 : decode cX2_restart 45 = .ok (.aload_n 0, 1) := by decide +kernel
theorem dX2_restart_46 : decode cX2_restart 46 = .ok (.iconst 0, 1) := by decide +kernel
theorem dX2_restart_47 : decode cX2_restart 47 = .ok (.iconst 0, 1) := by decide +kernel
theorem dX2_restart_48 : decode cX2_restart 48 = .ok (.iconst 0, 1) := by decide +kernel
theorem dX2_restart_49 : decode cX2_restart 49 = .ok (.invokevirtual 44, 3) := by decide +kernel
theorem dX2_restart_52 : decode cX2_restart 52 = .ok (.return_, 1) := by decide +kernel
theorem dXA_fill_0 : decode cXA_fill 0 = .ok (.iconst 0, 1) := by decide +kernel
theorem dXA_fill_1 : decode cXA_fill 1 = .ok (.istore_n 2, 1) := by decide +kernel
theorem dXA_fill_2 : decode cXA_fill 2 = .ok (.aload_n 0, 1) := by decide +kernel
theorem dXA_fill_3 : decode cXA_fill 3 = .ok (.arraylength, 1) := by decide +kernel
theorem dXA_fill_4 : decode cXA_fill 4 = .ok (.istore_n 3, 1) := by decide +kernel
theorem dXA_fill_5 : decode cXA_fill 5 = .ok (.iload_n 2, 1) := by decide +kernel
theorem dXA_fill_6 : decode cXA_fill 6 = .ok (.iload_n 3, 1) := by decide +kernel
theorem dXA_fill_7 : decode cXA_fill 7 = .ok (.if_icmp .ge 13, 3) := by decide +kernel
theorem dXA_fill_10 : decode cXA_fill 10 = .ok (.aload_n 0, 1) := by decide +kernel
theorem dXA_fill_11 : decode cXA_fill 11 = .ok (.iload_n 2, 1) := by decide +kernel
theorem dXA_fill_12 : decode cXA_fill 12 = .ok (.iload_n 1, 1) := by decide +kernel
theorem dXA_fill_13 : decode cXA_fill 13 = .ok (.iastore, 1) := by decide +kernel
theorem dXA_fill_14 : decode cXA_fill 14 = .ok (.iinc 2 1, 3) := by decide +kernel
theorem dXA_fill_17 : decode cXA_fill 17 = .ok (.goto (-12), 3) := by decide +kernel
theorem dXA_fill_20 : decode cXA_fill 20 = .ok (.return_, 1) := by decide +kernel
theorem dX1_restart_0 : decode cX1_restart 0 = .ok (.aload_n 0, 1) := by decide +kernel
theorem dX1_restart_1 : decode cX1_restart 1 = .ok (.getfield 9, 3) := by decide +kernel
theorem dX1_restart_4 : decode cX1_restart 4 = .ok (.iconst (-1), 1) := by decide +kernel
theorem dX1_restart_5 : decode cX1_restart 5 = .ok (.invokestatic 15, 3) := by decide +kernel
theorem dX1_restart_8 : decode cX1_restart 8 = .ok (.aload_n 0, 1) := by decide +kernel
theorem dX1_restart_9 : decode cX1_restart 9 = .ok (.iconst 0, 1) := by decide +kernel
theorem dX1_restart_10 : decode cX1_restart 10 = .ok (.putfield 21, 3) := by decide +kernel
theorem dX1_restart_13 : decode cX1_restart 13 = .ok (.aload_n 0, 1) := by decide +kernel
theorem dX1_restart_14 : decode cX1_restart 14 = .ok (.iconst 0, 1) := by decide +kernel
theorem dX1_restart_15 : decode cX1_restart 15 = .ok (.putfield 25, 3) := by decide +kernel
theorem dX1_restart_18 : decode cX1_restart 18 = .ok (.aload_n 0, 1) := by decide +kernel
theorem dX1_restart_19 : decode cX1_restart 19 = .ok (.iconst 0, 1) := by decide +kernel
theorem dX1_restart_20 : decode cX1_restart 20 = .ok (.putfield 29, 3) := by decide +kernel
theorem dX1_restart_23 : decode cX1_restart 23 = .ok (.aload_n 0, 1) := by decide +kernel
theorem dX1_restart_24 : decode cX1_restart 24 = .ok (.iconst 0, 1) := by decide +kernel
theorem dX1_restart_25 : decode cX1_restart 25 = .ok (.putfield 32, 3) := by decide +kernel
theorem dX1_restart_28 : decode cX1_restart 28 = .ok (.aload_n 0, 1) := by decide +kernel
theorem dX1_restart_29 : decode cX1_restart 29 = .ok (.iconst 0, 1) := by decide +kernel
theorem dX1_restart_30 : decode cX1_restart 30 = .ok (.putfield 35, 3) := by decide +kernel
theorem dX1_restart_33 : decode cX1_restart 33 = .ok (.aload_n 0, 1) := by decide +kernel
theorem dX1_restart_34 : decode cX1_restart 34 = .ok (.iconst 0, 1) := by decide +kernel
theorem dX1_restart_35 : decode cX1_restart 35 = .ok (.putfield 38, 3) := by decide +kernel
theorem dX1_restart_38 : decode cX1_restart 38 = .ok (.aload_n 0, 1) := by decide +kernel
theorem dX1_restart_39 : decode cX1_restart 39 = .ok (.iconst 0, 1) := by decide +kernel
theorem dX1_restart_40 : decode cX1_restart 40 = .ok (.putfield 41, 3) := by decide +kernel
theorem dX1_restart_43 : decode cX1_restart 43 = .ok (.return_, 1) := by decide +kernel
theorem dX4_restart_0 : decode cX4_restart 0 = .ok (.aload_n 0, 1) := by decide +kernel
theorem dX4_restart_1 : decode cX4_restart 1 = .ok (.iconst 0, 1) := by decide +kernel
theorem dX4_restart_2 : decode cX4_restart 2 = .ok (.putfield 13, 3) := by decide +kernel
theorem dX4_restart_5 : decode cX4_restart 5 = .ok (.aload_n 0, 1) := by decide +kernel
theorem dX4_restart_6 : decode cX4_restart 6 = .ok (.iconst 0, 1) := by decide +kernel
theorem dX4_restart_7 : decode cX4_restart 7 = .ok (.putfield 17, 3) := by decide +kernel
theorem dX4_restart_10 : decode cX4_restart 10 = .ok (.aload_n 0, 1) := by decide +kernel
theorem dX4_restart_11 : decode cX4_restart 11 = .ok (.iconst 0, 1) := by decide +kernel
theorem dX4_restart_12 : decode cX4_restart 12 = .ok (.putfield 20, 3) := by decide +kernel
theorem dX4_restart_15 : decode cX4_restart 15 = .ok (.aload_n 0, 1) := by decide +kernel
theorem dX4_restart_16 : decode cX4_restart 16 = .ok (.bipush 60, 2) := by decide +kernel
theorem dX4_restart_18 : decode cX4_restart 18 = .ok (.putfield 9, 3) := by decide +kernel
theorem dX4_restart_21 : decode cX4_restart 21 = .ok (.aload_n 0, 1) := by decide +kernel
theorem dX4_restart_22 : decode cX4_restart 22 = .ok (.iconst 0, 1) := by decide +kernel
theorem dX4_restart_23 : decode cX4_restart 23 = .ok (.putfield 23, 3) := by decide +kernel
theorem dX4_restart_26 : decode cX4_restart 26 = .ok (.aload_n 0, 1) := by decide +kernel
theorem dX4_restart_27 : decode cX4_restart 27 = .ok (.iconst 0, 1) := by decide +kernel
theorem dX4_restart_28 : decode cX4_restart 28 = .ok (.putfield 26, 3) := by decide +kernel
theorem dX4_restart_31 : decode cX4_restart 31 = .ok (.aload_n 0, 1) := by decide +kernel
theorem dX4_restart_32 : decode cX4_restart 32 = .ok (.iconst 0, 1) := by decide +kernel
theorem dX4_restart_33 : decode cX4_restart 33 = .ok (.putfield 29, 3) := by decide +kernel
theorem dX4_restart_36 : decode cX4_restart 36 = .ok (.aload_n 0, 1) := by decide +kernel
theorem dX4_restart_37 : decode cX4_restart 37 = .ok (.iconst 0, 1) := by decide +kernel
theorem dX4_restart_38 : decode cX4_restart 38 = .ok (.putfield 32, 3) := by decide +kernel
theorem dX4_restart_41 : decode cX4_restart 41 = .ok (.aload_n 0, 1) := by decide +kernel
theorem dX4_restart_42 : decode cX4_restart 42 = .ok (.iconst 0, 1) := by decide +kernel
theorem dX4_restart_43 : decode cX4_restart 43 = .ok (.putfield 35, 3) := by decide +kernel
theorem dX4_restart_46 : decode cX4_restart 46 = .ok (.aload_n 0, 1) := by decide +kernel
theorem dX4_restart_47 : decode cX4_restart 47 = .ok (.iconst 0, 1) := by decide +kernel
theorem dX4_restart_48 : decode cX4_restart 48 = .ok (.putfield 38, 3) := by decide +kernel
theorem dX4_restart_51 : decode cX4_restart 51 = .ok (.return_, 1) := by decide +kernel
theorem dX0_dropStream_0 : decode cX0_dropStream 0 = .ok (.aload_n 0, 1) := by decide +kernel
theorem dX0_dropStream_1 : decode cX0_dropStream 1 = .ok (.iconst 0, 1) := by decide +kernel
theorem dX0_dropStream_2 : decode cX0_dropStream 2 = .ok (.putfield 19, 3) := by decide +kernel
theorem dX0_dropStream_5 : decode cX0_dropStream 5 = .ok (.aload_n 0, 1) := by decide +kernel
theorem dX0_dropStream_6 : decode cX0_dropStream 6 = .ok (.iconst 0, 1) := by decide +kernel
theorem dX0_dropStream_7 : decode cX0_dropStream 7 = .ok (.putfield 22, 3) := by decide +kernel
theorem dX0_dropStream_10 : decode cX0_dropStream 10 = .ok (.aload_n 0, 1) := by decide +kernel
theorem dX0_dropStream_11 : decode cX0_dropStream 11 = .ok (.iconst 0, 1) := by decide +kernel
theorem dX0_dropStream_12 : decode cX0_dropStream 12 = .ok (.putfield 25, 3) := by decide +kernel
theorem dX0_dropStream_15 : decode cX0_dropStream 15 = .ok (.return_, 1) := by decide +kernel
theorem dX0_restart_0 : decode cX0_restart 0 = .ok (.aload_n 0, 1) := by decide +kernel
theorem dX0_restart_1 : decode cX0_restart 1 = .ok (.invokevirtual 7, 3) := by decide +kernel
theorem dX0_restart_4 : decode cX0_restart 4 = .ok (.aload_n 0, 1) := by decide +kernel
theorem dX0_restart_5 : decode cX0_restart 5 = .ok (.iconst 0, 1) := by decide +kernel
theorem dX0_restart_6 : decode cX0_restart 6 = .ok (.putfield 12, 3) := by decide +kernel
theorem dX0_restart_9 : decode cX0_restart 9 = .ok (.aload_n 0, 1) := by decide +kernel
theorem dX0_restart_10 : decode cX0_restart 10 = .ok (.iconst 0, 1) := by decide +kernel
theorem dX0_restart_11 : decode cX0_restart 11 = .ok (.putfield 16, 3) := by decide +kernel
theorem dX0_restart_14 : decode cX0_restart 14 = .ok (.return_, 1) := by decide +kernel
theorem dX5_openIsDue_0 : decode cX5_openIsDue 0 = .ok (.aload_n 0, 1) := by decide +kernel
theorem dX5_openIsDue_1 : decode cX5_openIsDue 1 = .ok (.getfield 21, 3) := by decide +kernel
theorem dX5_openIsDue_4 : decode cX5_openIsDue 4 = .ok (.aload_n 0, 1) := by decide +kernel
theorem dX5_openIsDue_5 : decode cX5_openIsDue 5 = .ok (.getfield 21, 3) := by decide +kernel
theorem dX5_openIsDue_8 : decode cX5_openIsDue 8 = .ok (.getfield 296, 3) := by decide +kernel
theorem dX5_openIsDue_11 : decode cX5_openIsDue 11 = .ok (.iconst 1, 1) := by decide +kernel
theorem dX5_openIsDue_12 : decode cX5_openIsDue 12 = .ok (.iadd, 1) := by decide +kernel
theorem dX5_openIsDue_13 : decode cX5_openIsDue 13 = .ok (.putfield 137, 3) := by decide +kernel
theorem dX5_openIsDue_16 : decode cX5_openIsDue 16 = .ok (.aload_n 0, 1) := by decide +kernel
theorem dX5_openIsDue_17 : decode cX5_openIsDue 17 = .ok (.getfield 42, 3) := by decide +kernel
theorem dX5_openIsDue_20 : decode cX5_openIsDue 20 = .ok (.iconst 1, 1) := by decide +kernel
theorem dX5_openIsDue_21 : decode cX5_openIsDue 21 = .ok (.putfield 173, 3) := by decide +kernel
theorem dX5_openIsDue_24 : decode cX5_openIsDue 24 = .ok (.return_, 1) := by decide +kernel
theorem dX5_startStream_0 : decode cX5_startStream 0 = .ok (.aload_n 0, 1) := by decide +kernel
theorem dX5_startStream_1 : decode cX5_startStream 1 = .ok (.getfield 21, 3) := by decide +kernel
theorem dX5_startStream_4 : decode cX5_startStream 4 = .ok (.iload_n 1, 1) := by decide +kernel
theorem dX5_startStream_5 : decode cX5_startStream 5 = .ok (.aload_n 0, 1) := by decide +kernel
theorem dX5_startStream_6 : decode cX5_startStream 6 = .ok (.getfield 9, 3) := by decide +kernel
theorem dX5_startStream_9 : decode cX5_startStream 9 = .ok (.invokevirtual 285, 3) := by decide +kernel
theorem dX5_startStream_12 : decode cX5_startStream 12 = .ok (.aload_n 0, 1) := by decide +kernel
theorem dX5_startStream_13 : decode cX5_startStream 13 = .ok (.getfield 28, 3) := by decide +kernel
theorem dX5_startStream_16 : decode cX5_startStream 16 = .ok (.invokevirtual 289, 3) := by decide +kernel
theorem dX5_startStream_19 : decode cX5_startStream 19 = .ok (.aload_n 0, 1) := by decide +kernel
theorem dX5_startStream_20 : decode cX5_startStream 20 = .ok (.getfield 35, 3) := by decide +kernel
theorem dX5_startStream_23 : decode cX5_startStream 23 = .ok (.invokevirtual 291, 3) := by decide +kernel
theorem dX5_startStream_26 : decode cX5_startStream 26 = .ok (.aload_n 0, 1) := by decide +kernel
theorem dX5_startStream_27 : decode cX5_startStream 27 = .ok (.getfield 42, 3) := by decide +kernel
theorem dX5_startStream_30 : decode cX5_startStream 30 = .ok (.invokevirtual 292, 3) := by decide +kernel
theorem dX5_startStream_33 : decode cX5_startStream 33 = .ok (.aload_n 0, 1) := by decide +kernel
theorem dX5_startStream_34 : decode cX5_startStream 34 = .ok (.iload_n 2, 1) := by decide +kernel
theorem dX5_startStream_35 : decode cX5_startStream 35 = .ok (.putfield 63, 3) := by decide +kernel
theorem dX5_startStream_38 : decode cX5_startStream 38 = .ok (.iload_n 2, 1) := by decide +kernel
theorem dX5_startStream_39 : decode cX5_startStream 39 = .ok (.ifCond .eq 11, 3) := by decide +kernel
theorem dX5_startStream_42 : decode cX5_startStream 42 = .ok (.aload_n 0, 1) := by decide +kernel
theorem dX5_startStream_43 : decode cX5_startStream 43 = .ok (.iconst 1, 1) := by decide +kernel
theorem dX5_startStream_44 : decode cX5_startStream 44 = .ok (.putfield 60, 3) := by decide +kernel
theorem dX5_startStream_47 : decode cX5_startStream 47 = .ok (.goto 12, 3) := by decide +kernel
theorem dX5_startStream_50 : decode cX5_startStream 50 = .ok (.aload_n 0, 1) := by decide +kernel
theorem dX5_startStream_51 : decode cX5_startStream 51 = .ok (.iconst 2, 1) := by decide +kernel
theorem dX5_startStream_52 : decode cX5_startStream 52 = .ok (.putfield 60, 3) := by decide +kernel
theorem dX5_startStream_55 : decode cX5_startStream 55 = .ok (.aload_n 0, 1) := by decide +kernel
theorem dX5_startStream_56 : decode cX5_startStream 56 = .ok (.invokevirtual 293, 3) := by decide +kernel
theorem dX5_startStream_59 : decode cX5_startStream 59 = .ok (.return_, 1) := by decide +kernel
theorem dX5_begin_0 : decode cX5_begin 0 = .ok (.aload_n 0, 1) := by decide +kernel
theorem dX5_begin_1 : decode cX5_begin 1 = .ok (.invokevirtual 69, 3) := by decide +kernel
theorem dX5_begin_4 : decode cX5_begin 4 = .ok (.ifCond .ne 13, 3) := by decide +kernel
theorem dX5_begin_7 : decode cX5_begin 7 = .ok (.new 73, 3) := by decide +kernel
theorem dX5_begin_10 : decode cX5_begin 10 = .ok (.dup, 1) := by decide +kernel
theorem dX5_begin_11 : decode cX5_begin 11 = .ok (.ldc 75, 2) := by decide +kernel
theorem dX5_begin_13 : decode cX5_begin 13 = .ok (.invokespecial 77, 3) := by decide +kernel
theorem dX5_begin_16 : decode cX5_begin 16 = .ok (.athrow, 1) := by decide +kernel
theorem dX5_begin_17 : decode cX5_begin 17 = .ok (.aload_n 0, 1) := by decide +kernel
theorem dX5_begin_18 : decode cX5_begin 18 = .ok (.iload_n 1, 1) := by decide +kernel
theorem dX5_begin_19 : decode cX5_begin 19 = .ok (.iload_n 2, 1) := by decide +kernel
theorem dX5_begin_20 : decode cX5_begin 20 = .ok (.invokevirtual 80, 3) := by decide +kernel
theorem dX5_begin_23 : decode cX5_begin 23 = .ok (.return_, 1) := by decide +kernel
theorem dX5_isHandful_0 : decode cX5_isHandful 0 = .ok (.iload_n 0, 1) := by decide +kernel
theorem dX5_isHandful_1 : decode cX5_isHandful 1 = .ok (.iconst 1, 1) := by decide +kernel
theorem dX5_isHandful_2 : decode cX5_isHandful 2 = .ok (.if_icmp .lt 13, 3) := by decide +kernel
theorem dX5_isHandful_5 : decode cX5_isHandful 5 = .ok (.iload_n 0, 1) := by decide +kernel
theorem dX5_isHandful_6 : decode cX5_isHandful 6 = .ok (.bipush 8, 2) := by decide +kernel
theorem dX5_isHandful_8 : decode cX5_isHandful 8 = .ok (.if_icmp .gt 7, 3) := by decide +kernel
theorem dX5_isHandful_11 : decode cX5_isHandful 11 = .ok (.iconst 1, 1) := by decide +kernel
theorem dX5_isHandful_12 : decode cX5_isHandful 12 = .ok (.goto 4, 3) := by decide +kernel
theorem dX5_isHandful_15 : decode cX5_isHandful 15 = .ok (.iconst 0, 1) := by decide +kernel
theorem dX5_isHandful_16 : decode cX5_isHandful 16 = .ok (.ireturn, 1) := by decide +kernel
theorem dX2_space_0 : decode cX2_space 0 = .ok (.sipush 2048, 3) := by decide +kernel
theorem dX2_space_3 : decode cX2_space 3 = .ok (.aload_n 0, 1) := by decide +kernel
theorem dX2_space_4 : decode cX2_space 4 = .ok (.getfield 22, 3) := by decide +kernel
theorem dX2_space_7 : decode cX2_space 7 = .ok (.isub, 1) := by decide +kernel
theorem dX2_space_8 : decode cX2_space 8 = .ok (.ireturn, 1) := by decide +kernel
theorem dX5_maySendNew_0 : decode cX5_maySendNew 0 = .ok (.aload_n 0, 1) := by decide +kernel
theorem dX5_maySendNew_1 : decode cX5_maySendNew 1 = .ok (.getfield 60, 3) := by decide +kernel
theorem dX5_maySendNew_4 : decode cX5_maySendNew 4 = .ok (.iconst 4, 1) := by decide +kernel
theorem dX5_maySendNew_5 : decode cX5_maySendNew 5 = .ok (.if_icmp .eq 38, 3) := by decide +kernel
theorem dX5_maySendNew_8 : decode cX5_maySendNew 8 = .ok (.aload_n 0, 1) := by decide +kernel
theorem dX5_maySendNew_9 : decode cX5_maySendNew 9 = .ok (.getfield 60, 3) := by decide +kernel
theorem dX5_maySendNew_12 : decode cX5_maySendNew 12 = .ok (.iconst 5, 1) := by decide +kernel
theorem dX5_maySendNew_13 : decode cX5_maySendNew 13 = .ok (.if_icmp .eq 30, 3) := by decide +kernel
theorem dX5_maySendNew_16 : decode cX5_maySendNew 16 = .ok (.aload_n 0, 1) := by decide +kernel
theorem dX5_maySendNew_17 : decode cX5_maySendNew 17 = .ok (.getfield 60, 3) := by decide +kernel
theorem dX5_maySendNew_20 : decode cX5_maySendNew 20 = .ok (.bipush 7, 2) := by decide +kernel
theorem dX5_maySendNew_22 : decode cX5_maySendNew 22 = .ok (.if_icmp .eq 21, 3) := by decide +kernel
theorem dX5_maySendNew_25 : decode cX5_maySendNew 25 = .ok (.aload_n 0, 1) := by decide +kernel
theorem dX5_maySendNew_26 : decode cX5_maySendNew 26 = .ok (.getfield 60, 3) := by decide +kernel
theorem dX5_maySendNew_29 : decode cX5_maySendNew 29 = .ok (.bipush 8, 2) := by decide +kernel
theorem dX5_maySendNew_31 : decode cX5_maySendNew 31 = .ok (.if_icmp .eq 12, 3) := by decide +kernel
theorem dX5_maySendNew_34 : decode cX5_maySendNew 34 = .ok (.aload_n 0, 1) := by decide +kernel
theorem dX5_maySendNew_35 : decode cX5_maySendNew 35 = .ok (.getfield 60, 3) := by decide +kernel
theorem dX5_maySendNew_38 : decode cX5_maySendNew 38 = .ok (.bipush 9, 2) := by decide +kernel
theorem dX5_maySendNew_40 : decode cX5_maySendNew 40 = .ok (.if_icmp .ne 7, 3) := by decide +kernel
theorem dX5_maySendNew_43 : decode cX5_maySendNew 43 = .ok (.iconst 1, 1) := by decide +kernel
theorem dX5_maySendNew_44 : decode cX5_maySendNew 44 = .ok (.goto 4, 3) := by decide +kernel
theorem dX5_maySendNew_47 : decode cX5_maySendNew 47 = .ok (.iconst 0, 1) := by decide +kernel
theorem dX5_maySendNew_48 : decode cX5_maySendNew 48 = .ok (.ireturn, 1) := by decide +kernel
theorem dX2_hasUnthanked_0 : decode cX2_hasUnthanked 0 = .ok (.aload_n 0, 1) := by decide +kernel
theorem dX2_hasUnthanked_1 : decode cX2_hasUnthanked 1 = .ok (.getfield 31, 3) := by decide +kernel
theorem dX2_hasUnthanked_4 : decode cX2_hasUnthanked 4 = .ok (.aload_n 0, 1) := by decide +kernel
theorem dX2_hasUnthanked_5 : decode cX2_hasUnthanked 5 = .ok (.getfield 34, 3) := by decide +kernel
theorem dX2_hasUnthanked_8 : decode cX2_hasUnthanked 8 = .ok (.if_icmp .eq 7, 3) := by decide +kernel
theorem dX2_hasUnthanked_11 : decode cX2_hasUnthanked 11 = .ok (.iconst 1, 1) := by decide +kernel
theorem dX2_hasUnthanked_12 : decode cX2_hasUnthanked 12 = .ok (.goto 4, 3) := by decide +kernel
theorem dX2_hasUnthanked_15 : decode cX2_hasUnthanked 15 = .ok (.iconst 0, 1) := by decide +kernel
theorem dX2_hasUnthanked_16 : decode cX2_hasUnthanked 16 = .ok (.ireturn, 1) := by decide +kernel
theorem dX2_unsent_0 : decode cX2_unsent 0 = .ok (.aload_n 0, 1) := by decide +kernel
theorem dX2_unsent_1 : decode cX2_unsent 1 = .ok (.getfield 22, 3) := by decide +kernel
theorem dX2_unsent_4 : decode cX2_unsent 4 = .ok (.aload_n 0, 1) := by decide +kernel
theorem dX2_unsent_5 : decode cX2_unsent 5 = .ok (.getfield 25, 3) := by decide +kernel
theorem dX2_unsent_8 : decode cX2_unsent 8 = .ok (.isub, 1) := by decide +kernel
theorem dX2_unsent_9 : decode cX2_unsent 9 = .ok (.ireturn, 1) := by decide +kernel
theorem dX2_hasNew_0 : decode cX2_hasNew 0 = .ok (.aload_n 0, 1) := by decide +kernel
theorem dX2_hasNew_1 : decode cX2_hasNew 1 = .ok (.invokevirtual 48, 3) := by decide +kernel
theorem dX2_hasNew_4 : decode cX2_hasNew 4 = .ok (.ifCond .gt 17, 3) := by decide +kernel
theorem dX2_hasNew_7 : decode cX2_hasNew 7 = .ok (.aload_n 0, 1) := by decide +kernel
theorem dX2_hasNew_8 : decode cX2_hasNew 8 = .ok (.getfield 37, 3) := by decide +kernel
theorem dX2_hasNew_11 : decode cX2_hasNew 11 = .ok (.ifCond .eq 14, 3) := by decide +kernel
theorem dX2_hasNew_14 : decode cX2_hasNew 14 = .ok (.aload_n 0, 1) := by decide +kernel
theorem dX2_hasNew_15 : decode cX2_hasNew 15 = .ok (.getfield 41, 3) := by decide +kernel
theorem dX2_hasNew_18 : decode cX2_hasNew 18 = .ok (.ifCond .ne 7, 3) := by decide +kernel
theorem dX2_hasNew_21 : decode cX2_hasNew 21 = .ok (.iconst 1, 1) := by decide +kernel
theorem dX2_hasNew_22 : decode cX2_hasNew 22 = .ok (.goto 4, 3) := by decide +kernel
theorem dX2_hasNew_25 : decode cX2_hasNew 25 = .ok (.iconst 0, 1) := by decide +kernel
theorem dX2_hasNew_26 : decode cX2_hasNew 26 = .ok (.ireturn, 1) := by decide +kernel
theorem dX4_setAlarm_0 : decode cX4_setAlarm 0 = .ok (.aload_n 0, 1) := by decide +kernel
theorem dX4_setAlarm_1 : decode cX4_setAlarm 1 = .ok (.iconst 1, 1) := by decide +kernel
theorem dX4_setAlarm_2 : decode cX4_setAlarm 2 = .ok (.putfield 13, 3) := by decide +kernel
theorem dX4_setAlarm_5 : decode cX4_setAlarm 5 = .ok (.aload_n 0, 1) := by decide +kernel
theorem dX4_setAlarm_6 : decode cX4_setAlarm 6 = .ok (.aload_n 0, 1) := by decide +kernel
theorem dX4_setAlarm_7 : decode cX4_setAlarm 7 = .ok (.getfield 41, 3) := by decide +kernel
theorem dX4_setAlarm_10 : decode cX4_setAlarm 10 = .ok (.aload_n 0, 1) := by decide +kernel
theorem dX4_setAlarm_11 : decode cX4_setAlarm 11 = .ok (.getfield 9, 3) := by decide +kernel
theorem dX4_setAlarm_14 : decode cX4_setAlarm 14 = .ok (.iadd, 1) := by decide +kernel
theorem dX4_setAlarm_15 : decode cX4_setAlarm 15 = .ok (.putfield 17, 3) := by decide +kernel
theorem dX4_setAlarm_18 : decode cX4_setAlarm 18 = .ok (.return_, 1) := by decide +kernel
theorem dX5_watchClosedWindow_0 : decode cX5_watchClosedWindow 0 = .ok (.aload_n 0, 1) := by decide +kernel
theorem dX5_watchClosedWindow_1 : decode cX5_watchClosedWindow 1 = .ok (.invokevirtual 185, 3) := by decide +kernel
theorem dX5_watchClosedWindow_4 : decode cX5_watchClosedWindow 4 = .ok (.ifCond .eq 50, 3) := by decide +kernel
theorem dX5_watchClosedWindow_7 : decode cX5_watchClosedWindow 7 = .ok (.aload_n 0, 1) := by decide +kernel
theorem dX5_watchClosedWindow_8 : decode cX5_watchClosedWindow 8 = .ok (.getfield 35, 3) := by decide +kernel
theorem dX5_watchClosedWindow_11 : decode cX5_watchClosedWindow 11 = .ok (.getfield 155, 3) := by decide +kernel
theorem dX5_watchClosedWindow_14 : decode cX5_watchClosedWindow 14 = .ok (.ifCond .ne 40, 3) := by decide +kernel
theorem dX5_watchClosedWindow_17 : decode cX5_watchClosedWindow 17 = .ok (.aload_n 0, 1) := by decide +kernel
theorem dX5_watchClosedWindow_18 : decode cX5_watchClosedWindow 18 = .ok (.getfield 21, 3) := by decide +kernel
theorem dX5_watchClosedWindow_21 : decode cX5_watchClosedWindow 21 = .ok (.invokevirtual 317, 3) := by decide +kernel
theorem dX5_watchClosedWindow_24 : decode cX5_watchClosedWindow 24 = .ok (.ifCond .ne 30, 3) := by decide +kernel
theorem dX5_watchClosedWindow_27 : decode cX5_watchClosedWindow 27 = .ok (.aload_n 0, 1) := by decide +kernel
theorem dX5_watchClosedWindow_28 : decode cX5_watchClosedWindow 28 = .ok (.getfield 21, 3) := by decide +kernel
theorem dX5_watchClosedWindow_31 : decode cX5_watchClosedWindow 31 = .ok (.getfield 262, 3) := by decide +kernel
theorem dX5_watchClosedWindow_34 : decode cX5_watchClosedWindow 34 = .ok (.ifCond .ne 20, 3) := by decide +kernel
theorem dX5_watchClosedWindow_37 : decode cX5_watchClosedWindow 37 = .ok (.aload_n 0, 1) := by decide +kernel
theorem dX5_watchClosedWindow_38 : decode cX5_watchClosedWindow 38 = .ok (.getfield 21, 3) := by decide +kernel
theorem dX5_watchClosedWindow_41 : decode cX5_watchClosedWindow 41 = .ok (.invokevirtual 326, 3) := by decide +kernel
theorem dX5_watchClosedWindow_44 : decode cX5_watchClosedWindow 44 = .ok (.ifCond .eq 10, 3) := by decide +kernel
theorem dX5_watchClosedWindow_47 : decode cX5_watchClosedWindow 47 = .ok (.aload_n 0, 1) := by decide +kernel
theorem dX5_watchClosedWindow_48 : decode cX5_watchClosedWindow 48 = .ok (.getfield 35, 3) := by decide +kernel
theorem dX5_watchClosedWindow_51 : decode cX5_watchClosedWindow 51 = .ok (.invokevirtual 323, 3) := by decide +kernel
theorem dX5_watchClosedWindow_54 : decode cX5_watchClosedWindow 54 = .ok (.return_, 1) := by decide +kernel
theorem dX5_byteOf_0 : decode cX5_byteOf 0 = .ok (.lload_n 0, 1) := by decide +kernel
theorem dX5_byteOf_1 : decode cX5_byteOf 1 = .ok (.bipush 8, 2) := by decide +kernel
theorem dX5_byteOf_3 : decode cX5_byteOf 3 = .ok (.iload_n 2, 1) := by decide +kernel
theorem dX5_byteOf_4 : decode cX5_byteOf 4 = .ok (.iconst 1, 1) := by decide +kernel
theorem dX5_byteOf_5 : decode cX5_byteOf 5 = .ok (.isub, 1) := by decide +kernel
theorem dX5_byteOf_6 : decode cX5_byteOf 6 = .ok (.iload_n 3, 1) := by decide +kernel
theorem dX5_byteOf_7 : decode cX5_byteOf 7 = .ok (.isub, 1) := by decide +kernel
theorem dX5_byteOf_8 : decode cX5_byteOf 8 = .ok (.imul, 1) := by decide +kernel
theorem dX5_byteOf_9 : decode cX5_byteOf 9 = .ok (.lushr, 1) := by decide +kernel
theorem dX5_byteOf_10 : decode cX5_byteOf 10 = .ok (.l2i, 1) := by decide +kernel
theorem dX5_byteOf_11 : decode cX5_byteOf 11 = .ok (.i2b, 1) := by decide +kernel
theorem dX5_byteOf_12 : decode cX5_byteOf 12 = .ok (.ireturn, 1) := by decide +kernel
theorem dX2_append_0 : decode cX2_append 0 = .ok (.aload_n 0, 1) := by decide +kernel
theorem dX2_append_1 : decode cX2_append 1 = .ok (.getfield 9, 3) := by decide +kernel
theorem dX2_append_4 : decode cX2_append 4 = .ok (.aload_n 0, 1) := by decide +kernel
theorem dX2_append_5 : decode cX2_append 5 = .ok (.getfield 19, 3) := by decide +kernel
theorem dX2_append_8 : decode cX2_append 8 = .ok (.aload_n 0, 1) := by decide +kernel
theorem dX2_append_9 : decode cX2_append 9 = .ok (.getfield 22, 3) := by decide +kernel
theorem dX2_append_12 : decode cX2_append 12 = .ok (.iadd, 1) := by decide +kernel
theorem dX2_append_13 : decode cX2_append 13 = .ok (.sipush 2047, 3) := by decide +kernel
theorem dX2_append_16 : decode cX2_append 16 = .ok (.iand, 1) := by decide +kernel
theorem dX2_append_17 : decode cX2_append 17 = .ok (.iload_n 1, 1) := by decide +kernel
theorem dX2_append_18 : decode cX2_append 18 = .ok (.bastore, 1) := by decide +kernel
theorem dX2_append_19 : decode cX2_append 19 = .ok (.aload_n 0, 1) := by decide +kernel
theorem dX2_append_20 : decode cX2_append 20 = .ok (.dup, 1) := by decide +kernel
theorem dX2_append_21 : decode cX2_append 21 = .ok (.getfield 22, 3) := by decide +kernel
theorem dX2_append_24 : decode cX2_append 24 = .ok (.iconst 1, 1) := by decide +kernel
theorem dX2_append_25 : decode cX2_append 25 = .ok (.iadd, 1) := by decide +kernel
theorem dX2_append_26 : decode cX2_append 26 = .ok (.putfield 22, 3) := by decide +kernel
theorem dX2_append_29 : decode cX2_append 29 = .ok (.return_, 1) := by decide +kernel
theorem dX5_write_0 : decode cX5_write 0 = .ok (.iload_n 3, 1) := by decide +kernel
theorem dX5_write_1 : decode cX5_write 1 = .ok (.invokestatic 84, 3) := by decide +kernel
theorem dX5_write_4 : decode cX5_write 4 = .ok (.ifCond .ne 13, 3) := by decide +kernel
theorem dX5_write_7 : decode cX5_write 7 = .ok (.new 88, 3) := by decide +kernel
theorem dX5_write_10 : decode cX5_write 10 = .ok (.dup, 1) := by decide +kernel
theorem dX5_write_11 : decode cX5_write 11 = .ok (.ldc 90, 2) := by decide +kernel
theorem dX5_write_13 : decode cX5_write 13 = .ok (.invokespecial 92, 3) := by decide +kernel
theorem dX5_write_16 : decode cX5_write 16 = .ok (.athrow, 1) := by decide +kernel
theorem dX5_write_17 : decode cX5_write 17 = .ok (.aload_n 0, 1) := by decide +kernel
theorem dX5_write_18 : decode cX5_write 18 = .ok (.getfield 21, 3) := by decide +kernel
theorem dX5_write_21 : decode cX5_write 21 = .ok (.getfield 93, 3) := by decide +kernel
theorem dX5_write_24 : decode cX5_write 24 = .ok (.ifCond .ne 18, 3) := by decide +kernel
theorem dX5_write_27 : decode cX5_write 27 = .ok (.aload_n 0, 1) := by decide +kernel
theorem dX5_write_28 : decode cX5_write 28 = .ok (.invokevirtual 69, 3) := by decide +kernel
theorem dX5_write_31 : decode cX5_write 31 = .ok (.ifCond .ne 11, 3) := by decide +kernel
theorem dX5_write_34 : decode cX5_write 34 = .ok (.aload_n 0, 1) := by decide +kernel
theorem dX5_write_35 : decode cX5_write 35 = .ok (.getfield 60, 3) := by decide +kernel
theorem dX5_write_38 : decode cX5_write 38 = .ok (.iconst 1, 1) := by decide +kernel
theorem dX5_write_39 : decode cX5_write 39 = .ok (.if_icmp .ne 13, 3) := by decide +kernel
theorem dX5_write_42 : decode cX5_write 42 = .ok (.new 73, 3) := by decide +kernel
theorem dX5_write_45 : decode cX5_write 45 = .ok (.dup, 1) := by decide +kernel
theorem dX5_write_46 : decode cX5_write 46 = .ok (.ldc 96, 2) := by decide +kernel
theorem dX5_write_48 : decode cX5_write 48 = .ok (.invokespecial 77, 3) := by decide +kernel
theorem dX5_write_51 : decode cX5_write 51 = .ok (.athrow, 1) := by decide +kernel
theorem dX5_write_52 : decode cX5_write 52 = .ok (.iload_n 3, 1) := by decide +kernel
theorem dX5_write_53 : decode cX5_write 53 = .ok (.aload_n 0, 1) := by decide +kernel
theorem dX5_write_54 : decode cX5_write 54 = .ok (.getfield 21, 3) := by decide +kernel
theorem dX5_write_57 : decode cX5_write 57 = .ok (.invokevirtual 98, 3) := by decide +kernel
theorem dX5_write_60 : decode cX5_write 60 = .ok (.invokestatic 102, 3) := by decide +kernel
theorem dX5_write_63 : decode cX5_write 63 = .ok (.istore 4, 2) := by decide +kernel
theorem dX5_write_65 : decode cX5_write 65 = .ok (.iconst 0, 1) := by decide +kernel
theorem dX5_write_66 : decode cX5_write 66 = .ok (.istore 5, 2) := by decide +kernel
theorem dX5_write_68 : decode cX5_write 68 = .ok (.iload 5, 2) := by decide +kernel
theorem dX5_write_70 : decode cX5_write 70 = .ok (.iload 4, 2) := by decide +kernel
theorem dX5_write_72 : decode cX5_write 72 = .ok (.if_icmp .ge 23, 3) := by decide +kernel
theorem dX5_write_75 : decode cX5_write 75 = .ok (.aload_n 0, 1) := by decide +kernel
theorem dX5_write_76 : decode cX5_write 76 = .ok (.getfield 21, 3) := by decide +kernel
theorem dX5_write_79 : decode cX5_write 79 = .ok (.lload_n 1, 1) := by decide +kernel
theorem dX5_write_80 : decode cX5_write 80 = .ok (.iload_n 3, 1) := by decide +kernel
theorem dX5_write_81 : decode cX5_write 81 = .ok (.iload 5, 2) := by decide +kernel
theorem dX5_write_83 : decode cX5_write 83 = .ok (.invokestatic 108, 3) := by decide +kernel
theorem dX5_write_86 : decode cX5_write 86 = .ok (.invokevirtual 112, 3) := by decide +kernel
theorem dX5_write_89 : decode cX5_write 89 = .ok (.iinc 5 1, 3) := by decide +kernel
theorem dX5_write_92 : decode cX5_write 92 = .ok (.goto (-24), 3) := by decide +kernel
theorem dX5_write_95 : decode cX5_write 95 = .ok (.aload_n 0, 1) := by decide +kernel
theorem dX5_write_96 : decode cX5_write 96 = .ok (.invokevirtual 116, 3) := by decide +kernel
theorem dX5_write_99 : decode cX5_write 99 = .ok (.iload 4, 2) := by decide +kernel
theorem dX5_write_101 : decode cX5_write 101 = .ok (.ireturn, 1) := by decide +kernel
theorem dX1_room_0 : decode cX1_room 0 = .ok (.sipush 2048, 3) := by decide +kernel
theorem dX1_room_3 : decode cX1_room 3 = .ok (.aload_n 0, 1) := by decide +kernel
theorem dX1_room_4 : decode cX1_room 4 = .ok (.getfield 29, 3) := by decide +kernel
theorem dX1_room_7 : decode cX1_room 7 = .ok (.isub, 1) := by decide +kernel
theorem dX1_room_8 : decode cX1_room 8 = .ok (.ireturn, 1) := by decide +kernel
theorem dX1_takeByte_0 : decode cX1_takeByte 0 = .ok (.aload_n 0, 1) := by decide +kernel
theorem dX1_takeByte_1 : decode cX1_takeByte 1 = .ok (.getfield 32, 3) := by decide +kernel
theorem dX1_takeByte_4 : decode cX1_takeByte 4 = .ok (.sipush 2047, 3) := by decide +kernel
theorem dX1_takeByte_7 : decode cX1_takeByte 7 = .ok (.iand, 1) := by decide +kernel
theorem dX1_takeByte_8 : decode cX1_takeByte 8 = .ok (.istore_n 1, 1) := by decide +kernel
theorem dX1_takeByte_9 : decode cX1_takeByte 9 = .ok (.aload_n 0, 1) := by decide +kernel
theorem dX1_takeByte_10 : decode cX1_takeByte 10 = .ok (.getfield 9, 3) := by decide +kernel
theorem dX1_takeByte_13 : decode cX1_takeByte 13 = .ok (.iload_n 1, 1) := by decide +kernel
theorem dX1_takeByte_14 : decode cX1_takeByte 14 = .ok (.iaload, 1) := by decide +kernel
theorem dX1_takeByte_15 : decode cX1_takeByte 15 = .ok (.istore_n 2, 1) := by decide +kernel
theorem dX1_takeByte_16 : decode cX1_takeByte 16 = .ok (.aload_n 0, 1) := by decide +kernel
theorem dX1_takeByte_17 : decode cX1_takeByte 17 = .ok (.getfield 9, 3) := by decide +kernel
theorem dX1_takeByte_20 : decode cX1_takeByte 20 = .ok (.iload_n 1, 1) := by decide +kernel
theorem dX1_takeByte_21 : decode cX1_takeByte 21 = .ok (.iconst (-1), 1) := by decide +kernel
theorem dX1_takeByte_22 : decode cX1_takeByte 22 = .ok (.iastore, 1) := by decide +kernel
end
section
/-! written by program (wip/gen) -/
theorem dX1_takeByte_23 : decode cX1_takeByte 23 = .ok (.aload_n 0, 1) := by decide +kernel
theorem dX1_takeByte_24 : decode cX1_takeByte 24 = .ok (.dup, 1) := by decide +kernel
theorem dX1_takeByte_25 : decode cX1_takeByte 25 = .ok (.getfield 32, 3) := by decide +kernel
theorem dX1_takeByte_28 : decode cX1_takeByte 28 = .ok (.iconst 1, 1) := by decide +kernel
theorem dX1_takeByte_29 : decode cX1_takeByte 29 = .ok (.iadd, 1) := by decide +kernel
theorem dX1_takeByte_30 : decode cX1_takeByte 30 = .ok (.putfield 32, 3) := by decide +kernel
theorem dX1_takeByte_33 : decode cX1_takeByte 33 = .ok (.aload_n 0, 1) := by decide +kernel
theorem dX1_takeByte_34 : decode cX1_takeByte 34 = .ok (.dup, 1) := by decide +kernel
theorem dX1_takeByte_35 : decode cX1_takeByte 35 = .ok (.getfield 29, 3) := by decide +kernel
theorem dX1_takeByte_38 : decode cX1_takeByte 38 = .ok (.iconst 1, 1) := by decide +kernel
theorem dX1_takeByte_39 : decode cX1_takeByte 39 = .ok (.isub, 1) := by decide +kernel
theorem dX1_takeByte_40 : decode cX1_takeByte 40 = .ok (.putfield 29, 3) := by decide +kernel
theorem dX1_takeByte_43 : decode cX1_takeByte 43 = .ok (.iload_n 2, 1) := by decide +kernel
theorem dX1_takeByte_44 : decode cX1_takeByte 44 = .ok (.ireturn, 1) := by decide +kernel
theorem dX5_mayTakeBytes_0 : decode cX5_mayTakeBytes 0 = .ok (.aload_n 0, 1) := by decide +kernel
theorem dX5_mayTakeBytes_1 : decode cX5_mayTakeBytes 1 = .ok (.getfield 60, 3) := by decide +kernel
theorem dX5_mayTakeBytes_4 : decode cX5_mayTakeBytes 4 = .ok (.iconst 4, 1) := by decide +kernel
theorem dX5_mayTakeBytes_5 : decode cX5_mayTakeBytes 5 = .ok (.if_icmp .eq 20, 3) := by decide +kernel
theorem dX5_mayTakeBytes_8 : decode cX5_mayTakeBytes 8 = .ok (.aload_n 0, 1) := by decide +kernel
theorem dX5_mayTakeBytes_9 : decode cX5_mayTakeBytes 9 = .ok (.getfield 60, 3) := by decide +kernel
theorem dX5_mayTakeBytes_12 : decode cX5_mayTakeBytes 12 = .ok (.iconst 5, 1) := by decide +kernel
theorem dX5_mayTakeBytes_13 : decode cX5_mayTakeBytes 13 = .ok (.if_icmp .eq 12, 3) := by decide +kernel
theorem dX5_mayTakeBytes_16 : decode cX5_mayTakeBytes 16 = .ok (.aload_n 0, 1) := by decide +kernel
theorem dX5_mayTakeBytes_17 : decode cX5_mayTakeBytes 17 = .ok (.getfield 60, 3) := by decide +kernel
theorem dX5_mayTakeBytes_20 : decode cX5_mayTakeBytes 20 = .ok (.bipush 6, 2) := by decide +kernel
theorem dX5_mayTakeBytes_22 : decode cX5_mayTakeBytes 22 = .ok (.if_icmp .ne 7, 3) := by decide +kernel
theorem dX5_mayTakeBytes_25 : decode cX5_mayTakeBytes 25 = .ok (.iconst 1, 1) := by decide +kernel
theorem dX5_mayTakeBytes_26 : decode cX5_mayTakeBytes 26 = .ok (.goto 4, 3) := by decide +kernel
theorem dX5_mayTakeBytes_29 : decode cX5_mayTakeBytes 29 = .ok (.iconst 0, 1) := by decide +kernel
theorem dX5_mayTakeBytes_30 : decode cX5_mayTakeBytes 30 = .ok (.ireturn, 1) := by decide +kernel
theorem dX5_readByte_0 : decode cX5_readByte 0 = .ok (.aload_n 0, 1) := by decide +kernel
theorem dX5_readByte_1 : decode cX5_readByte 1 = .ok (.getfield 21, 3) := by decide +kernel
theorem dX5_readByte_4 : decode cX5_readByte 4 = .ok (.getfield 273, 3) := by decide +kernel
theorem dX5_readByte_7 : decode cX5_readByte 7 = .ok (.sipush 1024, 3) := by decide +kernel
theorem dX5_readByte_10 : decode cX5_readByte 10 = .ok (.invokestatic 102, 3) := by decide +kernel
theorem dX5_readByte_13 : decode cX5_readByte 13 = .ok (.istore_n 1, 1) := by decide +kernel
theorem dX5_readByte_14 : decode cX5_readByte 14 = .ok (.aload_n 0, 1) := by decide +kernel
theorem dX5_readByte_15 : decode cX5_readByte 15 = .ok (.getfield 28, 3) := by decide +kernel
theorem dX5_readByte_18 : decode cX5_readByte 18 = .ok (.invokevirtual 263, 3) := by decide +kernel
theorem dX5_readByte_21 : decode cX5_readByte 21 = .ok (.iload_n 1, 1) := by decide +kernel
theorem dX5_readByte_22 : decode cX5_readByte 22 = .ok (.if_icmp .ge 7, 3) := by decide +kernel
theorem dX5_readByte_25 : decode cX5_readByte 25 = .ok (.iconst 1, 1) := by decide +kernel
theorem dX5_readByte_26 : decode cX5_readByte 26 = .ok (.goto 4, 3) := by decide +kernel
theorem dX5_readByte_29 : decode cX5_readByte 29 = .ok (.iconst 0, 1) := by decide +kernel
theorem dX5_readByte_30 : decode cX5_readByte 30 = .ok (.istore_n 2, 1) := by decide +kernel
theorem dX5_readByte_31 : decode cX5_readByte 31 = .ok (.aload_n 0, 1) := by decide +kernel
theorem dX5_readByte_32 : decode cX5_readByte 32 = .ok (.getfield 28, 3) := by decide +kernel
theorem dX5_readByte_35 : decode cX5_readByte 35 = .ok (.invokevirtual 305, 3) := by decide +kernel
theorem dX5_readByte_38 : decode cX5_readByte 38 = .ok (.istore_n 3, 1) := by decide +kernel
theorem dX5_readByte_39 : decode cX5_readByte 39 = .ok (.iload_n 2, 1) := by decide +kernel
theorem dX5_readByte_40 : decode cX5_readByte 40 = .ok (.ifCond .eq 29, 3) := by decide +kernel
theorem dX5_readByte_43 : decode cX5_readByte 43 = .ok (.aload_n 0, 1) := by decide +kernel
theorem dX5_readByte_44 : decode cX5_readByte 44 = .ok (.getfield 28, 3) := by decide +kernel
theorem dX5_readByte_47 : decode cX5_readByte 47 = .ok (.invokevirtual 263, 3) := by decide +kernel
theorem dX5_readByte_50 : decode cX5_readByte 50 = .ok (.iload_n 1, 1) := by decide +kernel
theorem dX5_readByte_51 : decode cX5_readByte 51 = .ok (.if_icmp .lt 18, 3) := by decide +kernel
theorem dX5_readByte_54 : decode cX5_readByte 54 = .ok (.aload_n 0, 1) := by decide +kernel
theorem dX5_readByte_55 : decode cX5_readByte 55 = .ok (.invokevirtual 308, 3) := by decide +kernel
theorem dX5_readByte_58 : decode cX5_readByte 58 = .ok (.ifCond .eq 11, 3) := by decide +kernel
theorem dX5_readByte_61 : decode cX5_readByte 61 = .ok (.aload_n 0, 1) := by decide +kernel
theorem dX5_readByte_62 : decode cX5_readByte 62 = .ok (.getfield 42, 3) := by decide +kernel
theorem dX5_readByte_65 : decode cX5_readByte 65 = .ok (.iconst 1, 1) := by decide +kernel
theorem dX5_readByte_66 : decode cX5_readByte 66 = .ok (.putfield 206, 3) := by decide +kernel
theorem dX5_readByte_69 : decode cX5_readByte 69 = .ok (.iload_n 3, 1) := by decide +kernel
theorem dX5_readByte_70 : decode cX5_readByte 70 = .ok (.ireturn, 1) := by decide +kernel
theorem dX5_read_0 : decode cX5_read 0 = .ok (.aload_n 0, 1) := by decide +kernel
theorem dX5_read_1 : decode cX5_read 1 = .ok (.getfield 28, 3) := by decide +kernel
theorem dX5_read_4 : decode cX5_read 4 = .ok (.getfield 119, 3) := by decide +kernel
theorem dX5_read_7 : decode cX5_read 7 = .ok (.ifCond .le 8, 3) := by decide +kernel
theorem dX5_read_10 : decode cX5_read 10 = .ok (.aload_n 0, 1) := by decide +kernel
theorem dX5_read_11 : decode cX5_read 11 = .ok (.invokevirtual 122, 3) := by decide +kernel
theorem dX5_read_14 : decode cX5_read 14 = .ok (.ireturn, 1) := by decide +kernel
theorem dX5_read_15 : decode cX5_read 15 = .ok (.aload_n 0, 1) := by decide +kernel
theorem dX5_read_16 : decode cX5_read 16 = .ok (.getfield 28, 3) := by decide +kernel
theorem dX5_read_19 : decode cX5_read 19 = .ok (.getfield 125, 3) := by decide +kernel
theorem dX5_read_22 : decode cX5_read 22 = .ok (.ifCond .eq 6, 3) := by decide +kernel
theorem dX5_read_25 : decode cX5_read 25 = .ok (.bipush (-2), 2) := by decide +kernel
theorem dX5_read_27 : decode cX5_read 27 = .ok (.ireturn, 1) := by decide +kernel
theorem dX5_read_28 : decode cX5_read 28 = .ok (.aload_n 0, 1) := by decide +kernel
theorem dX5_read_29 : decode cX5_read 29 = .ok (.invokevirtual 69, 3) := by decide +kernel
theorem dX5_read_32 : decode cX5_read 32 = .ok (.ifCond .ne 11, 3) := by decide +kernel
theorem dX5_read_35 : decode cX5_read 35 = .ok (.aload_n 0, 1) := by decide +kernel
theorem dX5_read_36 : decode cX5_read 36 = .ok (.getfield 60, 3) := by decide +kernel
theorem dX5_read_39 : decode cX5_read 39 = .ok (.iconst 1, 1) := by decide +kernel
theorem dX5_read_40 : decode cX5_read 40 = .ok (.if_icmp .ne 13, 3) := by decide +kernel
theorem dX5_read_43 : decode cX5_read 43 = .ok (.new 73, 3) := by decide +kernel
theorem dX5_read_46 : decode cX5_read 46 = .ok (.dup, 1) := by decide +kernel
theorem dX5_read_47 : decode cX5_read 47 = .ok (.ldc 128, 2) := by decide +kernel
theorem dX5_read_49 : decode cX5_read 49 = .ok (.invokespecial 77, 3) := by decide +kernel
theorem dX5_read_52 : decode cX5_read 52 = .ok (.athrow, 1) := by decide +kernel
theorem dX5_read_53 : decode cX5_read 53 = .ok (.iconst (-1), 1) := by decide +kernel
theorem dX5_read_54 : decode cX5_read 54 = .ok (.ireturn, 1) := by decide +kernel
theorem dX5_beginQuiet_0 : decode cX5_beginQuiet 0 = .ok (.aload_n 0, 1) := by decide +kernel
theorem dX5_beginQuiet_1 : decode cX5_beginQuiet 1 = .ok (.aload_n 0, 1) := by decide +kernel
theorem dX5_beginQuiet_2 : decode cX5_beginQuiet 2 = .ok (.getfield 35, 3) := by decide +kernel
theorem dX5_beginQuiet_5 : decode cX5_beginQuiet 5 = .ok (.getfield 150, 3) := by decide +kernel
theorem dX5_beginQuiet_8 : decode cX5_beginQuiet 8 = .ok (.aload_n 0, 1) := by decide +kernel
theorem dX5_beginQuiet_9 : decode cX5_beginQuiet 9 = .ok (.getfield 13, 3) := by decide +kernel
theorem dX5_beginQuiet_12 : decode cX5_beginQuiet 12 = .ok (.iadd, 1) := by decide +kernel
theorem dX5_beginQuiet_13 : decode cX5_beginQuiet 13 = .ok (.putfield 66, 3) := by decide +kernel
theorem dX5_beginQuiet_16 : decode cX5_beginQuiet 16 = .ok (.return_, 1) := by decide +kernel
theorem dX5_halt_0 : decode cX5_halt 0 = .ok (.aload_n 0, 1) := by decide +kernel
theorem dX5_halt_1 : decode cX5_halt 1 = .ok (.iload_n 1, 1) := by decide +kernel
theorem dX5_halt_2 : decode cX5_halt 2 = .ok (.putfield 60, 3) := by decide +kernel
theorem dX5_halt_5 : decode cX5_halt 5 = .ok (.aload_n 0, 1) := by decide +kernel
theorem dX5_halt_6 : decode cX5_halt 6 = .ok (.getfield 35, 3) := by decide +kernel
theorem dX5_halt_9 : decode cX5_halt 9 = .ok (.iconst 0, 1) := by decide +kernel
theorem dX5_halt_10 : decode cX5_halt 10 = .ok (.putfield 155, 3) := by decide +kernel
theorem dX5_halt_13 : decode cX5_halt 13 = .ok (.aload_n 0, 1) := by decide +kernel
theorem dX5_halt_14 : decode cX5_halt 14 = .ok (.getfield 42, 3) := by decide +kernel
theorem dX5_halt_17 : decode cX5_halt 17 = .ok (.invokevirtual 299, 3) := by decide +kernel
theorem dX5_halt_20 : decode cX5_halt 20 = .ok (.iload_n 1, 1) := by decide +kernel
theorem dX5_halt_21 : decode cX5_halt 21 = .ok (.bipush 10, 2) := by decide +kernel
theorem dX5_halt_23 : decode cX5_halt 23 = .ok (.if_icmp .ne 10, 3) := by decide +kernel
theorem dX5_halt_26 : decode cX5_halt 26 = .ok (.aload_n 0, 1) := by decide +kernel
theorem dX5_halt_27 : decode cX5_halt 27 = .ok (.invokevirtual 302, 3) := by decide +kernel
theorem dX5_halt_30 : decode cX5_halt 30 = .ok (.goto 11, 3) := by decide +kernel
theorem dX5_halt_33 : decode cX5_halt 33 = .ok (.aload_n 0, 1) := by decide +kernel
theorem dX5_halt_34 : decode cX5_halt 34 = .ok (.getfield 42, 3) := by decide +kernel
theorem dX5_halt_37 : decode cX5_halt 37 = .ok (.iconst 0, 1) := by decide +kernel
theorem dX5_halt_38 : decode cX5_halt 38 = .ok (.putfield 206, 3) := by decide +kernel
theorem dX5_halt_41 : decode cX5_halt 41 = .ok (.return_, 1) := by decide +kernel
theorem dX5_close_0 : decode cX5_close 0 = .ok (.aload_n 0, 1) := by decide +kernel
theorem dX5_close_1 : decode cX5_close 1 = .ok (.getfield 21, 3) := by decide +kernel
theorem dX5_close_4 : decode cX5_close 4 = .ok (.getfield 93, 3) := by decide +kernel
theorem dX5_close_7 : decode cX5_close 7 = .ok (.ifCond .ne 10, 3) := by decide +kernel
theorem dX5_close_10 : decode cX5_close 10 = .ok (.aload_n 0, 1) := by decide +kernel
theorem dX5_close_11 : decode cX5_close 11 = .ok (.invokevirtual 69, 3) := by decide +kernel
theorem dX5_close_14 : decode cX5_close 14 = .ok (.ifCond .eq 13, 3) := by decide +kernel
theorem dX5_close_17 : decode cX5_close 17 = .ok (.new 73, 3) := by decide +kernel
theorem dX5_close_20 : decode cX5_close 20 = .ok (.dup, 1) := by decide +kernel
theorem dX5_close_21 : decode cX5_close 21 = .ok (.ldc 130, 2) := by decide +kernel
theorem dX5_close_23 : decode cX5_close 23 = .ok (.invokespecial 77, 3) := by decide +kernel
theorem dX5_close_26 : decode cX5_close 26 = .ok (.athrow, 1) := by decide +kernel
theorem dX5_close_27 : decode cX5_close 27 = .ok (.aload_n 0, 1) := by decide +kernel
theorem dX5_close_28 : decode cX5_close 28 = .ok (.getfield 21, 3) := by decide +kernel
theorem dX5_close_31 : decode cX5_close 31 = .ok (.iconst 1, 1) := by decide +kernel
theorem dX5_close_32 : decode cX5_close 32 = .ok (.putfield 93, 3) := by decide +kernel
theorem dX5_close_35 : decode cX5_close 35 = .ok (.aload_n 0, 1) := by decide +kernel
theorem dX5_close_36 : decode cX5_close 36 = .ok (.getfield 60, 3) := by decide +kernel
theorem dX5_close_39 : decode cX5_close 39 = .ok (.iconst 1, 1) := by decide +kernel
theorem dX5_close_40 : decode cX5_close 40 = .ok (.if_icmp .eq 11, 3) := by decide +kernel
theorem dX5_close_43 : decode cX5_close 43 = .ok (.aload_n 0, 1) := by decide +kernel
theorem dX5_close_44 : decode cX5_close 44 = .ok (.getfield 60, 3) := by decide +kernel
theorem dX5_close_47 : decode cX5_close 47 = .ok (.iconst 2, 1) := by decide +kernel
theorem dX5_close_48 : decode cX5_close 48 = .ok (.if_icmp .ne 11, 3) := by decide +kernel
theorem dX5_close_51 : decode cX5_close 51 = .ok (.aload_n 0, 1) := by decide +kernel
theorem dX5_close_52 : decode cX5_close 52 = .ok (.iconst 0, 1) := by decide +kernel
theorem dX5_close_53 : decode cX5_close 53 = .ok (.invokevirtual 132, 3) := by decide +kernel
theorem dX5_close_56 : decode cX5_close 56 = .ok (.goto 34, 3) := by decide +kernel
theorem dX5_close_59 : decode cX5_close 59 = .ok (.aload_n 0, 1) := by decide +kernel
theorem dX5_close_60 : decode cX5_close 60 = .ok (.getfield 60, 3) := by decide +kernel
theorem dX5_close_63 : decode cX5_close 63 = .ok (.iconst 4, 1) := by decide +kernel
theorem dX5_close_64 : decode cX5_close 64 = .ok (.if_icmp .ne 11, 3) := by decide +kernel
theorem dX5_close_67 : decode cX5_close 67 = .ok (.aload_n 0, 1) := by decide +kernel
theorem dX5_close_68 : decode cX5_close 68 = .ok (.iconst 5, 1) := by decide +kernel
theorem dX5_close_69 : decode cX5_close 69 = .ok (.putfield 60, 3) := by decide +kernel
theorem dX5_close_72 : decode cX5_close 72 = .ok (.goto 18, 3) := by decide +kernel
theorem dX5_close_75 : decode cX5_close 75 = .ok (.aload_n 0, 1) := by decide +kernel
theorem dX5_close_76 : decode cX5_close 76 = .ok (.getfield 60, 3) := by decide +kernel
theorem dX5_close_79 : decode cX5_close 79 = .ok (.bipush 7, 2) := by decide +kernel
theorem dX5_close_81 : decode cX5_close 81 = .ok (.if_icmp .ne 9, 3) := by decide +kernel
theorem dX5_close_84 : decode cX5_close 84 = .ok (.aload_n 0, 1) := by decide +kernel
theorem dX5_close_85 : decode cX5_close 85 = .ok (.bipush 9, 2) := by decide +kernel
theorem dX5_close_87 : decode cX5_close 87 = .ok (.putfield 60, 3) := by decide +kernel
theorem dX5_close_90 : decode cX5_close 90 = .ok (.aload_n 0, 1) := by decide +kernel
theorem dX5_close_91 : decode cX5_close 91 = .ok (.invokevirtual 116, 3) := by decide +kernel
theorem dX5_close_94 : decode cX5_close 94 = .ok (.return_, 1) := by decide +kernel
theorem dX0_resetIs_0 : decode cX0_resetIs 0 = .ok (.aload_n 0, 1) := by decide +kernel
theorem dX0_resetIs_1 : decode cX0_resetIs 1 = .ok (.iconst 1, 1) := by decide +kernel
theorem dX0_resetIs_2 : decode cX0_resetIs 2 = .ok (.putfield 28, 3) := by decide +kernel
theorem dX0_resetIs_5 : decode cX0_resetIs 5 = .ok (.aload_n 0, 1) := by decide +kernel
theorem dX0_resetIs_6 : decode cX0_resetIs 6 = .ok (.iload_n 1, 1) := by decide +kernel
theorem dX0_resetIs_7 : decode cX0_resetIs 7 = .ok (.putfield 31, 3) := by decide +kernel
theorem dX0_resetIs_10 : decode cX0_resetIs 10 = .ok (.aload_n 0, 1) := by decide +kernel
theorem dX0_resetIs_11 : decode cX0_resetIs 11 = .ok (.iload_n 2, 1) := by decide +kernel
theorem dX0_resetIs_12 : decode cX0_resetIs 12 = .ok (.putfield 35, 3) := by decide +kernel
theorem dX0_resetIs_15 : decode cX0_resetIs 15 = .ok (.aload_n 0, 1) := by decide +kernel
theorem dX0_resetIs_16 : decode cX0_resetIs 16 = .ok (.iload_n 3, 1) := by decide +kernel
theorem dX0_resetIs_17 : decode cX0_resetIs 17 = .ok (.putfield 38, 3) := by decide +kernel
theorem dX0_resetIs_20 : decode cX0_resetIs 20 = .ok (.return_, 1) := by decide +kernel
theorem dX5_abort_0 : decode cX5_abort 0 = .ok (.aload_n 0, 1) := by decide +kernel
theorem dX5_abort_1 : decode cX5_abort 1 = .ok (.invokevirtual 69, 3) := by decide +kernel
theorem dX5_abort_4 : decode cX5_abort 4 = .ok (.ifCond .eq 13, 3) := by decide +kernel
theorem dX5_abort_7 : decode cX5_abort 7 = .ok (.new 73, 3) := by decide +kernel
theorem dX5_abort_10 : decode cX5_abort 10 = .ok (.dup, 1) := by decide +kernel
theorem dX5_abort_11 : decode cX5_abort 11 = .ok (.ldc 135, 2) := by decide +kernel
theorem dX5_abort_13 : decode cX5_abort 13 = .ok (.invokespecial 77, 3) := by decide +kernel
theorem dX5_abort_16 : decode cX5_abort 16 = .ok (.athrow, 1) := by decide +kernel
theorem dX5_abort_17 : decode cX5_abort 17 = .ok (.aload_n 0, 1) := by decide +kernel
theorem dX5_abort_18 : decode cX5_abort 18 = .ok (.getfield 60, 3) := by decide +kernel
theorem dX5_abort_21 : decode cX5_abort 21 = .ok (.iconst 1, 1) := by decide +kernel
theorem dX5_abort_22 : decode cX5_abort 22 = .ok (.if_icmp .eq 43, 3) := by decide +kernel
theorem dX5_abort_25 : decode cX5_abort 25 = .ok (.aload_n 0, 1) := by decide +kernel
theorem dX5_abort_26 : decode cX5_abort 26 = .ok (.getfield 60, 3) := by decide +kernel
theorem dX5_abort_29 : decode cX5_abort 29 = .ok (.iconst 2, 1) := by decide +kernel
theorem dX5_abort_30 : decode cX5_abort 30 = .ok (.if_icmp .eq 35, 3) := by decide +kernel
theorem dX5_abort_33 : decode cX5_abort 33 = .ok (.aload_n 0, 1) := by decide +kernel
theorem dX5_abort_34 : decode cX5_abort 34 = .ok (.getfield 60, 3) := by decide +kernel
theorem dX5_abort_37 : decode cX5_abort 37 = .ok (.bipush 10, 2) := by decide +kernel
theorem dX5_abort_39 : decode cX5_abort 39 = .ok (.if_icmp .eq 26, 3) := by decide +kernel
theorem dX5_abort_42 : decode cX5_abort 42 = .ok (.aload_n 0, 1) := by decide +kernel
theorem dX5_abort_43 : decode cX5_abort 43 = .ok (.getfield 42, 3) := by decide +kernel
theorem dX5_abort_46 : decode cX5_abort 46 = .ok (.bipush 12, 2) := by decide +kernel
theorem dX5_abort_48 : decode cX5_abort 48 = .ok (.aload_n 0, 1) := by decide +kernel
theorem dX5_abort_49 : decode cX5_abort 49 = .ok (.getfield 21, 3) := by decide +kernel
theorem dX5_abort_52 : decode cX5_abort 52 = .ok (.getfield 137, 3) := by decide +kernel
theorem dX5_abort_55 : decode cX5_abort 55 = .ok (.aload_n 0, 1) := by decide +kernel
theorem dX5_abort_56 : decode cX5_abort 56 = .ok (.getfield 28, 3) := by decide +kernel
theorem dX5_abort_59 : decode cX5_abort 59 = .ok (.getfield 140, 3) := by decide +kernel
theorem dX5_abort_62 : decode cX5_abort 62 = .ok (.invokevirtual 143, 3) := by decide +kernel
theorem dX5_abort_65 : decode cX5_abort 65 = .ok (.aload_n 0, 1) := by decide +kernel
theorem dX5_abort_66 : decode cX5_abort 66 = .ok (.bipush 11, 2) := by decide +kernel
theorem dX5_abort_68 : decode cX5_abort 68 = .ok (.invokevirtual 132, 3) := by decide +kernel
theorem dX5_abort_71 : decode cX5_abort 71 = .ok (.return_, 1) := by decide +kernel
theorem dX4_ticksToAlarm_0 : decode cX4_ticksToAlarm 0 = .ok (.aload_n 0, 1) := by decide +kernel
theorem dX4_ticksToAlarm_1 : decode cX4_ticksToAlarm 1 = .ok (.getfield 13, 3) := by decide +kernel
theorem dX4_ticksToAlarm_4 : decode cX4_ticksToAlarm 4 = .ok (.ifCond .eq 15, 3) := by decide +kernel
theorem dX4_ticksToAlarm_7 : decode cX4_ticksToAlarm 7 = .ok (.aload_n 0, 1) := by decide +kernel
theorem dX4_ticksToAlarm_8 : decode cX4_ticksToAlarm 8 = .ok (.getfield 17, 3) := by decide +kernel
theorem dX4_ticksToAlarm_11 : decode cX4_ticksToAlarm 11 = .ok (.aload_n 0, 1) := by decide +kernel
theorem dX4_ticksToAlarm_12 : decode cX4_ticksToAlarm 12 = .ok (.getfield 41, 3) := by decide +kernel
theorem dX4_ticksToAlarm_15 : decode cX4_ticksToAlarm 15 = .ok (.isub, 1) := by decide +kernel
theorem dX4_ticksToAlarm_16 : decode cX4_ticksToAlarm 16 = .ok (.goto 4, 3) := by decide +kernel
theorem dX4_ticksToAlarm_19 : decode cX4_ticksToAlarm 19 = .ok (.iconst 0, 1) := by decide +kernel
theorem dX4_ticksToAlarm_20 : decode cX4_ticksToAlarm 20 = .ok (.ireturn, 1) := by decide +kernel
theorem dX4_doubleWait_0 : decode cX4_doubleWait 0 = .ok (.aload_n 0, 1) := by decide +kernel
theorem dX4_doubleWait_1 : decode cX4_doubleWait 1 = .ok (.iconst 2, 1) := by decide +kernel
theorem dX4_doubleWait_2 : decode cX4_doubleWait 2 = .ok (.aload_n 0, 1) := by decide +kernel
theorem dX4_doubleWait_3 : decode cX4_doubleWait 3 = .ok (.getfield 9, 3) := by decide +kernel
theorem dX4_doubleWait_6 : decode cX4_doubleWait 6 = .ok (.imul, 1) := by decide +kernel
theorem dX4_doubleWait_7 : decode cX4_doubleWait 7 = .ok (.sipush 1200, 3) := by decide +kernel
theorem dX4_doubleWait_10 : decode cX4_doubleWait 10 = .ok (.invokestatic 47, 3) := by decide +kernel
theorem dX4_doubleWait_13 : decode cX4_doubleWait 13 = .ok (.putfield 9, 3) := by decide +kernel
theorem dX4_doubleWait_16 : decode cX4_doubleWait 16 = .ok (.return_, 1) := by decide +kernel
theorem dX5_takeAlarm_0 : decode cX5_takeAlarm 0 = .ok (.aload_n 0, 1) := by decide +kernel
theorem dX5_takeAlarm_1 : decode cX5_takeAlarm 1 = .ok (.getfield 35, 3) := by decide +kernel
theorem dX5_takeAlarm_4 : decode cX5_takeAlarm 4 = .ok (.dup, 1) := by decide +kernel
theorem dX5_takeAlarm_5 : decode cX5_takeAlarm 5 = .ok (.getfield 270, 3) := by decide +kernel
theorem dX5_takeAlarm_8 : decode cX5_takeAlarm 8 = .ok (.iconst 1, 1) := by decide +kernel
theorem dX5_takeAlarm_9 : decode cX5_takeAlarm 9 = .ok (.iadd, 1) := by decide +kernel
theorem dX5_takeAlarm_10 : decode cX5_takeAlarm 10 = .ok (.putfield 270, 3) := by decide +kernel
theorem dX5_takeAlarm_13 : decode cX5_takeAlarm 13 = .ok (.aload_n 0, 1) := by decide +kernel
theorem dX5_takeAlarm_14 : decode cX5_takeAlarm 14 = .ok (.getfield 35, 3) := by decide +kernel
theorem dX5_takeAlarm_17 : decode cX5_takeAlarm 17 = .ok (.getfield 270, 3) := by decide +kernel
theorem dX5_takeAlarm_20 : decode cX5_takeAlarm 20 = .ok (.bipush 8, 2) := by decide +kernel
theorem dX5_takeAlarm_22 : decode cX5_takeAlarm 22 = .ok (.if_icmp .le 10, 3) := by decide +kernel
theorem dX5_takeAlarm_25 : decode cX5_takeAlarm 25 = .ok (.aload_n 0, 1) := by decide +kernel
theorem dX5_takeAlarm_26 : decode cX5_takeAlarm 26 = .ok (.bipush 11, 2) := by decide +kernel
theorem dX5_takeAlarm_28 : decode cX5_takeAlarm 28 = .ok (.invokevirtual 132, 3) := by decide +kernel
theorem dX5_takeAlarm_31 : decode cX5_takeAlarm 31 = .ok (.return_, 1) := by decide +kernel
theorem dX5_takeAlarm_32 : decode cX5_takeAlarm 32 = .ok (.aload_n 0, 1) := by decide +kernel
theorem dX5_takeAlarm_33 : decode cX5_takeAlarm 33 = .ok (.getfield 60, 3) := by decide +kernel
theorem dX5_takeAlarm_36 : decode cX5_takeAlarm 36 = .ok (.iconst 2, 1) := by decide +kernel
theorem dX5_takeAlarm_37 : decode cX5_takeAlarm 37 = .ok (.if_icmp .eq 11, 3) := by decide +kernel
theorem dX5_takeAlarm_40 : decode cX5_takeAlarm 40 = .ok (.aload_n 0, 1) := by decide +kernel
theorem dX5_takeAlarm_41 : decode cX5_takeAlarm 41 = .ok (.getfield 60, 3) := by decide +kernel
theorem dX5_takeAlarm_44 : decode cX5_takeAlarm 44 = .ok (.iconst 3, 1) := by decide +kernel
theorem dX5_takeAlarm_45 : decode cX5_takeAlarm 45 = .ok (.if_icmp .ne 14, 3) := by decide +kernel
theorem dX5_takeAlarm_48 : decode cX5_takeAlarm 48 = .ok (.aload_n 0, 1) := by decide +kernel
theorem dX5_takeAlarm_49 : decode cX5_takeAlarm 49 = .ok (.getfield 42, 3) := by decide +kernel
theorem dX5_takeAlarm_52 : decode cX5_takeAlarm 52 = .ok (.iconst 1, 1) := by decide +kernel
theorem dX5_takeAlarm_53 : decode cX5_takeAlarm 53 = .ok (.putfield 173, 3) := by decide +kernel
theorem dX5_takeAlarm_56 : decode cX5_takeAlarm 56 = .ok (.goto 32, 3) := by decide +kernel
theorem dX5_takeAlarm_59 : decode cX5_takeAlarm 59 = .ok (.aload_n 0, 1) := by decide +kernel
theorem dX5_takeAlarm_60 : decode cX5_takeAlarm 60 = .ok (.getfield 21, 3) := by decide +kernel
theorem dX5_takeAlarm_63 : decode cX5_takeAlarm 63 = .ok (.invokevirtual 317, 3) := by decide +kernel
theorem dX5_takeAlarm_66 : decode cX5_takeAlarm 66 = .ok (.ifCond .eq 14, 3) := by decide +kernel
theorem dX5_takeAlarm_69 : decode cX5_takeAlarm 69 = .ok (.aload_n 0, 1) := by decide +kernel
theorem dX5_takeAlarm_70 : decode cX5_takeAlarm 70 = .ok (.getfield 42, 3) := by decide +kernel
theorem dX5_takeAlarm_73 : decode cX5_takeAlarm 73 = .ok (.iconst 1, 1) := by decide +kernel
theorem dX5_takeAlarm_74 : decode cX5_takeAlarm 74 = .ok (.putfield 179, 3) := by decide +kernel
theorem dX5_takeAlarm_77 : decode cX5_takeAlarm 77 = .ok (.goto 11, 3) := by decide +kernel
theorem dX5_takeAlarm_80 : decode cX5_takeAlarm 80 = .ok (.aload_n 0, 1) := by decide +kernel
theorem dX5_takeAlarm_81 : decode cX5_takeAlarm 81 = .ok (.getfield 42, 3) := by decide +kernel
theorem dX5_takeAlarm_84 : decode cX5_takeAlarm 84 = .ok (.iconst 1, 1) := by decide +kernel
theorem dX5_takeAlarm_85 : decode cX5_takeAlarm 85 = .ok (.putfield 200, 3) := by decide +kernel
theorem dX5_takeAlarm_88 : decode cX5_takeAlarm 88 = .ok (.aload_n 0, 1) := by decide +kernel
theorem dX5_takeAlarm_89 : decode cX5_takeAlarm 89 = .ok (.getfield 35, 3) := by decide +kernel
theorem dX5_takeAlarm_92 : decode cX5_takeAlarm 92 = .ok (.invokevirtual 320, 3) := by decide +kernel
theorem dX5_takeAlarm_95 : decode cX5_takeAlarm 95 = .ok (.aload_n 0, 1) := by decide +kernel
theorem dX5_takeAlarm_96 : decode cX5_takeAlarm 96 = .ok (.getfield 35, 3) := by decide +kernel
theorem dX5_takeAlarm_99 : decode cX5_takeAlarm 99 = .ok (.invokevirtual 323, 3) := by decide +kernel
theorem dX5_takeAlarm_102 : decode cX5_takeAlarm 102 = .ok (.return_, 1) := by decide +kernel
theorem dX5_takeEvents_0 : decode cX5_takeEvents 0 = .ok (.aload_n 0, 1) := by decide +kernel
theorem dX5_takeEvents_1 : decode cX5_takeEvents 1 = .ok (.getfield 60, 3) := by decide +kernel
theorem dX5_takeEvents_4 : decode cX5_takeEvents 4 = .ok (.bipush 10, 2) := by decide +kernel
theorem dX5_takeEvents_6 : decode cX5_takeEvents 6 = .ok (.if_icmp .ne 22, 3) := by decide +kernel
theorem dX5_takeEvents_9 : decode cX5_takeEvents 9 = .ok (.aload_n 0, 1) := by decide +kernel
theorem dX5_takeEvents_10 : decode cX5_takeEvents 10 = .ok (.getfield 35, 3) := by decide +kernel
theorem dX5_takeEvents_13 : decode cX5_takeEvents 13 = .ok (.getfield 150, 3) := by decide +kernel
theorem dX5_takeEvents_16 : decode cX5_takeEvents 16 = .ok (.aload_n 0, 1) := by decide +kernel
theorem dX5_takeEvents_17 : decode cX5_takeEvents 17 = .ok (.getfield 66, 3) := by decide +kernel
theorem dX5_takeEvents_20 : decode cX5_takeEvents 20 = .ok (.if_icmp .lt 8, 3) := by decide +kernel
theorem dX5_takeEvents_23 : decode cX5_takeEvents 23 = .ok (.aload_n 0, 1) := by decide +kernel
theorem dX5_takeEvents_24 : decode cX5_takeEvents 24 = .ok (.iconst 0, 1) := by decide +kernel
theorem dX5_takeEvents_25 : decode cX5_takeEvents 25 = .ok (.invokevirtual 132, 3) := by decide +kernel
theorem dX5_takeEvents_28 : decode cX5_takeEvents 28 = .ok (.aload_n 0, 1) := by decide +kernel
theorem dX5_takeEvents_29 : decode cX5_takeEvents 29 = .ok (.getfield 35, 3) := by decide +kernel
theorem dX5_takeEvents_32 : decode cX5_takeEvents 32 = .ok (.getfield 155, 3) := by decide +kernel
theorem dX5_takeEvents_35 : decode cX5_takeEvents 35 = .ok (.ifCond .eq 24, 3) := by decide +kernel
theorem dX5_takeEvents_38 : decode cX5_takeEvents 38 = .ok (.aload_n 0, 1) := by decide +kernel
theorem dX5_takeEvents_39 : decode cX5_takeEvents 39 = .ok (.getfield 35, 3) := by decide +kernel
theorem dX5_takeEvents_42 : decode cX5_takeEvents 42 = .ok (.getfield 150, 3) := by decide +kernel
theorem dX5_takeEvents_45 : decode cX5_takeEvents 45 = .ok (.aload_n 0, 1) := by decide +kernel
theorem dX5_takeEvents_46 : decode cX5_takeEvents 46 = .ok (.getfield 35, 3) := by decide +kernel
theorem dX5_takeEvents_49 : decode cX5_takeEvents 49 = .ok (.getfield 311, 3) := by decide +kernel
theorem dX5_takeEvents_52 : decode cX5_takeEvents 52 = .ok (.if_icmp .lt 7, 3) := by decide +kernel
theorem dX5_takeEvents_55 : decode cX5_takeEvents 55 = .ok (.aload_n 0, 1) := by decide +kernel
theorem dX5_takeEvents_56 : decode cX5_takeEvents 56 = .ok (.invokevirtual 314, 3) := by decide +kernel
theorem dX5_takeEvents_59 : decode cX5_takeEvents 59 = .ok (.return_, 1) := by decide +kernel
theorem dX5_run_0 : decode cX5_run 0 = .ok (.iload_n 1, 1) := by decide +kernel
theorem dX5_run_1 : decode cX5_run 1 = .ok (.iconst 1, 1) := by decide +kernel
theorem dX5_run_2 : decode cX5_run 2 = .ok (.if_icmp .lt 10, 3) := by decide +kernel
theorem dX5_run_5 : decode cX5_run 5 = .ok (.iload_n 1, 1) := by decide +kernel
theorem dX5_run_6 : decode cX5_run 6 = .ok (.sipush 2000, 3) := by decide +kernel
theorem dX5_run_9 : decode cX5_run 9 = .ok (.if_icmp .le 13, 3) := by decide +kernel
theorem dX5_run_12 : decode cX5_run 12 = .ok (.new 88, 3) := by decide +kernel
theorem dX5_run_15 : decode cX5_run 15 = .ok (.dup, 1) := by decide +kernel
theorem dX5_run_16 : decode cX5_run 16 = .ok (.ldc 147, 2) := by decide +kernel
theorem dX5_run_18 : decode cX5_run 18 = .ok (.invokespecial 92, 3) := by decide +kernel
theorem dX5_run_21 : decode cX5_run 21 = .ok (.athrow, 1) := by decide +kernel
theorem dX5_run_22 : decode cX5_run 22 = .ok (.iload_n 1, 1) := by decide +kernel
theorem dX5_run_23 : decode cX5_run 23 = .ok (.ldc 149, 2) := by decide +kernel
theorem dX5_run_25 : decode cX5_run 25 = .ok (.aload_n 0, 1) := by decide +kernel
theorem dX5_run_26 : decode cX5_run 26 = .ok (.getfield 35, 3) := by decide +kernel
theorem dX5_run_29 : decode cX5_run 29 = .ok (.getfield 150, 3) := by decide +kernel
theorem dX5_run_32 : decode cX5_run 32 = .ok (.isub, 1) := by decide +kernel
theorem dX5_run_33 : decode cX5_run 33 = .ok (.if_icmp .le 13, 3) := by decide +kernel
theorem dX5_run_36 : decode cX5_run 36 = .ok (.new 73, 3) := by decide +kernel
theorem dX5_run_39 : decode cX5_run 39 = .ok (.dup, 1) := by decide +kernel
theorem dX5_run_40 : decode cX5_run 40 = .ok (.ldc 153, 2) := by decide +kernel
theorem dX5_run_42 : decode cX5_run 42 = .ok (.invokespecial 77, 3) := by decide +kernel
theorem dX5_run_45 : decode cX5_run 45 = .ok (.athrow, 1) := by decide +kernel
theorem dX5_run_46 : decode cX5_run 46 = .ok (.iload_n 1, 1) := by decide +kernel
theorem dX5_run_47 : decode cX5_run 47 = .ok (.istore_n 2, 1) := by decide +kernel
theorem dX5_run_48 : decode cX5_run 48 = .ok (.iload_n 2, 1) := by decide +kernel
theorem dX5_run_49 : decode cX5_run 49 = .ok (.ifCond .le 57, 3) := by decide +kernel
theorem dX5_run_52 : decode cX5_run 52 = .ok (.aload_n 0, 1) := by decide +kernel
theorem dX5_run_53 : decode cX5_run 53 = .ok (.getfield 35, 3) := by decide +kernel
theorem dX5_run_56 : decode cX5_run 56 = .ok (.getfield 155, 3) := by decide +kernel
theorem dX5_run_59 : decode cX5_run 59 = .ok (.ifCond .eq 21, 3) := by decide +kernel
theorem dX5_run_62 : decode cX5_run 62 = .ok (.iconst 1, 1) := by decide +kernel
theorem dX5_run_63 : decode cX5_run 63 = .ok (.iload_n 2, 1) := by decide +kernel
theorem dX5_run_64 : decode cX5_run 64 = .ok (.aload_n 0, 1) := by decide +kernel
theorem dX5_run_65 : decode cX5_run 65 = .ok (.getfield 35, 3) := by decide +kernel
theorem dX5_run_68 : decode cX5_run 68 = .ok (.invokevirtual 158, 3) := by decide +kernel
theorem dX5_run_71 : decode cX5_run 71 = .ok (.invokestatic 102, 3) := by decide +kernel
theorem dX5_run_74 : decode cX5_run 74 = .ok (.invokestatic 161, 3) := by decide +kernel
theorem dX5_run_77 : decode cX5_run 77 = .ok (.goto 4, 3) := by decide +kernel
theorem dX5_run_80 : decode cX5_run 80 = .ok (.iload_n 2, 1) := by decide +kernel
theorem dX5_run_81 : decode cX5_run 81 = .ok (.istore_n 3, 1) := by decide +kernel
theorem dX5_run_82 : decode cX5_run 82 = .ok (.iload_n 2, 1) := by decide +kernel
theorem dX5_run_83 : decode cX5_run 83 = .ok (.iload_n 3, 1) := by decide +kernel
theorem dX5_run_84 : decode cX5_run 84 = .ok (.isub, 1) := by decide +kernel
theorem dX5_run_85 : decode cX5_run 85 = .ok (.istore_n 2, 1) := by decide +kernel
theorem dX5_run_86 : decode cX5_run 86 = .ok (.aload_n 0, 1) := by decide +kernel
theorem dX5_run_87 : decode cX5_run 87 = .ok (.getfield 35, 3) := by decide +kernel
theorem dX5_run_90 : decode cX5_run 90 = .ok (.dup, 1) := by decide +kernel
theorem dX5_run_91 : decode cX5_run 91 = .ok (.getfield 150, 3) := by decide +kernel
theorem dX5_run_94 : decode cX5_run 94 = .ok (.iload_n 3, 1) := by decide +kernel
theorem dX5_run_95 : decode cX5_run 95 = .ok (.iadd, 1) := by decide +kernel
theorem dX5_run_96 : decode cX5_run 96 = .ok (.putfield 150, 3) := by decide +kernel
theorem dX5_run_99 : decode cX5_run 99 = .ok (.aload_n 0, 1) := by decide +kernel
theorem dX5_run_100 : decode cX5_run 100 = .ok (.invokevirtual 164, 3) := by decide +kernel
theorem dX5_run_103 : decode cX5_run 103 = .ok (.goto (-55), 3) := by decide +kernel
theorem dX5_run_106 : decode cX5_run 106 = .ok (.aload_n 0, 1) := by decide +kernel
theorem dX5_run_107 : decode cX5_run 107 = .ok (.getfield 35, 3) := by decide +kernel
theorem dX5_run_110 : decode cX5_run 110 = .ok (.getfield 150, 3) := by decide +kernel
theorem dX5_run_113 : decode cX5_run 113 = .ok (.ireturn, 1) := by decide +kernel
theorem dX3_headIs_0 : decode cX3_headIs 0 = .ok (.aload_n 0, 1) := by decide +kernel
theorem dX3_headIs_1 : decode cX3_headIs 1 = .ok (.iload_n 1, 1) := by decide +kernel
theorem dX3_headIs_2 : decode cX3_headIs 2 = .ok (.putfield 15, 3) := by decide +kernel
theorem dX3_headIs_5 : decode cX3_headIs 5 = .ok (.aload_n 0, 1) := by decide +kernel
theorem dX3_headIs_6 : decode cX3_headIs 6 = .ok (.iload_n 2, 1) := by decide +kernel
theorem dX3_headIs_7 : decode cX3_headIs 7 = .ok (.putfield 19, 3) := by decide +kernel
theorem dX3_headIs_10 : decode cX3_headIs 10 = .ok (.aload_n 0, 1) := by decide +kernel
theorem dX3_headIs_11 : decode cX3_headIs 11 = .ok (.iload_n 3, 1) := by decide +kernel
theorem dX3_headIs_12 : decode cX3_headIs 12 = .ok (.putfield 22, 3) := by decide +kernel
theorem dX3_headIs_15 : decode cX3_headIs 15 = .ok (.aload_n 0, 1) := by decide +kernel
theorem dX3_headIs_16 : decode cX3_headIs 16 = .ok (.iload 4, 2) := by decide +kernel
theorem dX3_headIs_18 : decode cX3_headIs 18 = .ok (.putfield 25, 3) := by decide +kernel
theorem dX3_headIs_21 : decode cX3_headIs 21 = .ok (.aload_n 0, 1) := by decide +kernel
theorem dX3_headIs_22 : decode cX3_headIs 22 = .ok (.iload 5, 2) := by decide +kernel
theorem dX3_headIs_24 : decode cX3_headIs 24 = .ok (.putfield 28, 3) := by decide +kernel
theorem dX3_headIs_27 : decode cX3_headIs 27 = .ok (.return_, 1) := by decide +kernel
theorem dX3_append_0 : decode cX3_append 0 = .ok (.aload_n 0, 1) := by decide +kernel
theorem dX3_append_1 : decode cX3_append 1 = .ok (.getfield 31, 3) := by decide +kernel
theorem dX3_append_4 : decode cX3_append 4 = .ok (.ifCond .lt 35, 3) := by decide +kernel
theorem dX3_append_7 : decode cX3_append 7 = .ok (.aload_n 0, 1) := by decide +kernel
theorem dX3_append_8 : decode cX3_append 8 = .ok (.getfield 31, 3) := by decide +kernel
theorem dX3_append_11 : decode cX3_append 11 = .ok (.aload_n 0, 1) := by decide +kernel
theorem dX3_append_12 : decode cX3_append 12 = .ok (.getfield 9, 3) := by decide +kernel
theorem dX3_append_15 : decode cX3_append 15 = .ok (.arraylength, 1) := by decide +kernel
theorem dX3_append_16 : decode cX3_append 16 = .ok (.if_icmp .ge 23, 3) := by decide +kernel
theorem dX3_append_19 : decode cX3_append 19 = .ok (.aload_n 0, 1) := by decide +kernel
theorem dX3_append_20 : decode cX3_append 20 = .ok (.getfield 9, 3) := by decide +kernel
theorem dX3_append_23 : decode cX3_append 23 = .ok (.aload_n 0, 1) := by decide +kernel
theorem dX3_append_24 : decode cX3_append 24 = .ok (.getfield 31, 3) := by decide +kernel
theorem dX3_append_27 : decode cX3_append 27 = .ok (.iload_n 1, 1) := by decide +kernel
end
section
/-! written by program (wip/gen) -/
theorem dX3_append_28 : decode cX3_append 28 = .ok (.bastore, 1) := by decide +kernel
theorem dX3_append_29 : decode cX3_append 29 = .ok (.aload_n 0, 1) := by decide +kernel
theorem dX3_append_30 : decode cX3_append 30 = .ok (.dup, 1) := by decide +kernel
theorem dX3_append_31 : decode cX3_append 31 = .ok (.getfield 31, 3) := by decide +kernel
theorem dX3_append_34 : decode cX3_append 34 = .ok (.iconst 1, 1) := by decide +kernel
theorem dX3_append_35 : decode cX3_append 35 = .ok (.iadd, 1) := by decide +kernel
theorem dX3_append_36 : decode cX3_append 36 = .ok (.putfield 31, 3) := by decide +kernel
theorem dX3_append_39 : decode cX3_append 39 = .ok (.return_, 1) := by decide +kernel
theorem dX2_copyTo_0 : decode cX2_copyTo 0 = .ok (.aload_n 1, 1) := by decide +kernel
theorem dX2_copyTo_1 : decode cX2_copyTo 1 = .ok (.iconst 0, 1) := by decide +kernel
theorem dX2_copyTo_2 : decode cX2_copyTo 2 = .ok (.putfield 77, 3) := by decide +kernel
theorem dX2_copyTo_5 : decode cX2_copyTo 5 = .ok (.iconst 0, 1) := by decide +kernel
theorem dX2_copyTo_6 : decode cX2_copyTo 6 = .ok (.istore 4, 2) := by decide +kernel
theorem dX2_copyTo_8 : decode cX2_copyTo 8 = .ok (.iload 4, 2) := by decide +kernel
theorem dX2_copyTo_10 : decode cX2_copyTo 10 = .ok (.iload_n 3, 1) := by decide +kernel
theorem dX2_copyTo_11 : decode cX2_copyTo 11 = .ok (.if_icmp .ge 31, 3) := by decide +kernel
theorem dX2_copyTo_14 : decode cX2_copyTo 14 = .ok (.aload_n 1, 1) := by decide +kernel
theorem dX2_copyTo_15 : decode cX2_copyTo 15 = .ok (.aload_n 0, 1) := by decide +kernel
theorem dX2_copyTo_16 : decode cX2_copyTo 16 = .ok (.getfield 9, 3) := by decide +kernel
theorem dX2_copyTo_19 : decode cX2_copyTo 19 = .ok (.aload_n 0, 1) := by decide +kernel
theorem dX2_copyTo_20 : decode cX2_copyTo 20 = .ok (.getfield 19, 3) := by decide +kernel
theorem dX2_copyTo_23 : decode cX2_copyTo 23 = .ok (.iload_n 2, 1) := by decide +kernel
theorem dX2_copyTo_24 : decode cX2_copyTo 24 = .ok (.iadd, 1) := by decide +kernel
theorem dX2_copyTo_25 : decode cX2_copyTo 25 = .ok (.iload 4, 2) := by decide +kernel
theorem dX2_copyTo_27 : decode cX2_copyTo 27 = .ok (.iadd, 1) := by decide +kernel
theorem dX2_copyTo_28 : decode cX2_copyTo 28 = .ok (.sipush 2047, 3) := by decide +kernel
theorem dX2_copyTo_31 : decode cX2_copyTo 31 = .ok (.iand, 1) := by decide +kernel
theorem dX2_copyTo_32 : decode cX2_copyTo 32 = .ok (.baload, 1) := by decide +kernel
theorem dX2_copyTo_33 : decode cX2_copyTo 33 = .ok (.invokevirtual 80, 3) := by decide +kernel
theorem dX2_copyTo_36 : decode cX2_copyTo 36 = .ok (.iinc 4 1, 3) := by decide +kernel
theorem dX2_copyTo_39 : decode cX2_copyTo 39 = .ok (.goto (-31), 3) := by decide +kernel
theorem dX2_copyTo_42 : decode cX2_copyTo 42 = .ok (.return_, 1) := by decide +kernel
theorem dX5_make_0 : decode cX5_make 0 = .ok (.aload_n 0, 1) := by decide +kernel
theorem dX5_make_1 : decode cX5_make 1 = .ok (.getfield 28, 3) := by decide +kernel
theorem dX5_make_4 : decode cX5_make 4 = .ok (.getfield 365, 3) := by decide +kernel
theorem dX5_make_7 : decode cX5_make 7 = .ok (.ifCond .eq 8, 3) := by decide +kernel
theorem dX5_make_10 : decode cX5_make 10 = .ok (.bipush 8, 2) := by decide +kernel
theorem dX5_make_12 : decode cX5_make 12 = .ok (.goto 4, 3) := by decide +kernel
theorem dX5_make_15 : decode cX5_make 15 = .ok (.iconst 0, 1) := by decide +kernel
theorem dX5_make_16 : decode cX5_make 16 = .ok (.istore 5, 2) := by decide +kernel
theorem dX5_make_18 : decode cX5_make 18 = .ok (.iload_n 1, 1) := by decide +kernel
theorem dX5_make_19 : decode cX5_make 19 = .ok (.iconst 1, 1) := by decide +kernel
theorem dX5_make_20 : decode cX5_make 20 = .ok (.iand, 1) := by decide +kernel
theorem dX5_make_21 : decode cX5_make 21 = .ok (.ifCond .eq 10, 3) := by decide +kernel
theorem dX5_make_24 : decode cX5_make 24 = .ok (.aload_n 0, 1) := by decide +kernel
theorem dX5_make_25 : decode cX5_make 25 = .ok (.getfield 9, 3) := by decide +kernel
theorem dX5_make_28 : decode cX5_make 28 = .ok (.goto 4, 3) := by decide +kernel
theorem dX5_make_31 : decode cX5_make 31 = .ok (.iconst 0, 1) := by decide +kernel
theorem dX5_make_32 : decode cX5_make 32 = .ok (.istore 6, 2) := by decide +kernel
theorem dX5_make_34 : decode cX5_make 34 = .ok (.aload_n 0, 1) := by decide +kernel
theorem dX5_make_35 : decode cX5_make 35 = .ok (.getfield 53, 3) := by decide +kernel
theorem dX5_make_38 : decode cX5_make 38 = .ok (.iload_n 1, 1) := by decide +kernel
theorem dX5_make_39 : decode cX5_make 39 = .ok (.iload 5, 2) := by decide +kernel
theorem dX5_make_41 : decode cX5_make 41 = .ok (.ior, 1) := by decide +kernel
theorem dX5_make_42 : decode cX5_make 42 = .ok (.iload_n 2, 1) := by decide +kernel
theorem dX5_make_43 : decode cX5_make 43 = .ok (.aload_n 0, 1) := by decide +kernel
theorem dX5_make_44 : decode cX5_make 44 = .ok (.getfield 28, 3) := by decide +kernel
theorem dX5_make_47 : decode cX5_make 47 = .ok (.getfield 140, 3) := by decide +kernel
theorem dX5_make_50 : decode cX5_make 50 = .ok (.aload_n 0, 1) := by decide +kernel
theorem dX5_make_51 : decode cX5_make 51 = .ok (.getfield 28, 3) := by decide +kernel
theorem dX5_make_54 : decode cX5_make 54 = .ok (.invokevirtual 263, 3) := by decide +kernel
theorem dX5_make_57 : decode cX5_make 57 = .ok (.iload 6, 2) := by decide +kernel
theorem dX5_make_59 : decode cX5_make 59 = .ok (.invokevirtual 252, 3) := by decide +kernel
theorem dX5_make_62 : decode cX5_make 62 = .ok (.aload_n 0, 1) := by decide +kernel
theorem dX5_make_63 : decode cX5_make 63 = .ok (.getfield 21, 3) := by decide +kernel
theorem dX5_make_66 : decode cX5_make 66 = .ok (.aload_n 0, 1) := by decide +kernel
theorem dX5_make_67 : decode cX5_make 67 = .ok (.getfield 53, 3) := by decide +kernel
theorem dX5_make_70 : decode cX5_make 70 = .ok (.iload_n 3, 1) := by decide +kernel
theorem dX5_make_71 : decode cX5_make 71 = .ok (.iload 4, 2) := by decide +kernel
theorem dX5_make_73 : decode cX5_make 73 = .ok (.invokevirtual 368, 3) := by decide +kernel
theorem dX5_make_76 : decode cX5_make 76 = .ok (.aload_n 0, 1) := by decide +kernel
theorem dX5_make_77 : decode cX5_make 77 = .ok (.getfield 28, 3) := by decide +kernel
theorem dX5_make_80 : decode cX5_make 80 = .ok (.getfield 365, 3) := by decide +kernel
theorem dX5_make_83 : decode cX5_make 83 = .ok (.ifCond .eq 11, 3) := by decide +kernel
theorem dX5_make_86 : decode cX5_make 86 = .ok (.aload_n 0, 1) := by decide +kernel
theorem dX5_make_87 : decode cX5_make 87 = .ok (.getfield 42, 3) := by decide +kernel
theorem dX5_make_90 : decode cX5_make 90 = .ok (.iconst 0, 1) := by decide +kernel
theorem dX5_make_91 : decode cX5_make 91 = .ok (.putfield 206, 3) := by decide +kernel
theorem dX5_make_94 : decode cX5_make 94 = .ok (.return_, 1) := by decide +kernel
theorem dX2_wasSent_0 : decode cX2_wasSent 0 = .ok (.aload_n 0, 1) := by decide +kernel
theorem dX2_wasSent_1 : decode cX2_wasSent 1 = .ok (.dup, 1) := by decide +kernel
theorem dX2_wasSent_2 : decode cX2_wasSent 2 = .ok (.getfield 25, 3) := by decide +kernel
theorem dX2_wasSent_5 : decode cX2_wasSent 5 = .ok (.iload_n 1, 1) := by decide +kernel
theorem dX2_wasSent_6 : decode cX2_wasSent 6 = .ok (.iadd, 1) := by decide +kernel
theorem dX2_wasSent_7 : decode cX2_wasSent 7 = .ok (.putfield 25, 3) := by decide +kernel
theorem dX2_wasSent_10 : decode cX2_wasSent 10 = .ok (.aload_n 0, 1) := by decide +kernel
theorem dX2_wasSent_11 : decode cX2_wasSent 11 = .ok (.dup, 1) := by decide +kernel
theorem dX2_wasSent_12 : decode cX2_wasSent 12 = .ok (.getfield 34, 3) := by decide +kernel
theorem dX2_wasSent_15 : decode cX2_wasSent 15 = .ok (.iload_n 1, 1) := by decide +kernel
theorem dX2_wasSent_16 : decode cX2_wasSent 16 = .ok (.iadd, 1) := by decide +kernel
theorem dX2_wasSent_17 : decode cX2_wasSent 17 = .ok (.putfield 34, 3) := by decide +kernel
theorem dX2_wasSent_20 : decode cX2_wasSent 20 = .ok (.iload_n 2, 1) := by decide +kernel
theorem dX2_wasSent_21 : decode cX2_wasSent 21 = .ok (.ifCond .eq 18, 3) := by decide +kernel
theorem dX2_wasSent_24 : decode cX2_wasSent 24 = .ok (.aload_n 0, 1) := by decide +kernel
theorem dX2_wasSent_25 : decode cX2_wasSent 25 = .ok (.iconst 1, 1) := by decide +kernel
theorem dX2_wasSent_26 : decode cX2_wasSent 26 = .ok (.putfield 41, 3) := by decide +kernel
theorem dX2_wasSent_29 : decode cX2_wasSent 29 = .ok (.aload_n 0, 1) := by decide +kernel
theorem dX2_wasSent_30 : decode cX2_wasSent 30 = .ok (.dup, 1) := by decide +kernel
theorem dX2_wasSent_31 : decode cX2_wasSent 31 = .ok (.getfield 34, 3) := by decide +kernel
theorem dX2_wasSent_34 : decode cX2_wasSent 34 = .ok (.iconst 1, 1) := by decide +kernel
theorem dX2_wasSent_35 : decode cX2_wasSent 35 = .ok (.iadd, 1) := by decide +kernel
theorem dX2_wasSent_36 : decode cX2_wasSent 36 = .ok (.putfield 34, 3) := by decide +kernel
theorem dX2_wasSent_39 : decode cX2_wasSent 39 = .ok (.return_, 1) := by decide +kernel
theorem dX4_measure_0 : decode cX4_measure 0 = .ok (.aload_n 0, 1) := by decide +kernel
theorem dX4_measure_1 : decode cX4_measure 1 = .ok (.getfield 32, 3) := by decide +kernel
theorem dX4_measure_4 : decode cX4_measure 4 = .ok (.ifCond .ne 21, 3) := by decide +kernel
theorem dX4_measure_7 : decode cX4_measure 7 = .ok (.aload_n 0, 1) := by decide +kernel
theorem dX4_measure_8 : decode cX4_measure 8 = .ok (.iconst 1, 1) := by decide +kernel
theorem dX4_measure_9 : decode cX4_measure 9 = .ok (.putfield 32, 3) := by decide +kernel
theorem dX4_measure_12 : decode cX4_measure 12 = .ok (.aload_n 0, 1) := by decide +kernel
theorem dX4_measure_13 : decode cX4_measure 13 = .ok (.iload_n 1, 1) := by decide +kernel
theorem dX4_measure_14 : decode cX4_measure 14 = .ok (.putfield 35, 3) := by decide +kernel
theorem dX4_measure_17 : decode cX4_measure 17 = .ok (.aload_n 0, 1) := by decide +kernel
theorem dX4_measure_18 : decode cX4_measure 18 = .ok (.aload_n 0, 1) := by decide +kernel
theorem dX4_measure_19 : decode cX4_measure 19 = .ok (.getfield 41, 3) := by decide +kernel
theorem dX4_measure_22 : decode cX4_measure 22 = .ok (.putfield 38, 3) := by decide +kernel
theorem dX4_measure_25 : decode cX4_measure 25 = .ok (.return_, 1) := by decide +kernel
theorem dX4_setAlarmIfOff_0 : decode cX4_setAlarmIfOff 0 = .ok (.aload_n 0, 1) := by decide +kernel
theorem dX4_setAlarmIfOff_1 : decode cX4_setAlarmIfOff 1 = .ok (.getfield 13, 3) := by decide +kernel
theorem dX4_setAlarmIfOff_4 : decode cX4_setAlarmIfOff 4 = .ok (.ifCond .ne 7, 3) := by decide +kernel
theorem dX4_setAlarmIfOff_7 : decode cX4_setAlarmIfOff 7 = .ok (.aload_n 0, 1) := by decide +kernel
theorem dX4_setAlarmIfOff_8 : decode cX4_setAlarmIfOff 8 = .ok (.invokevirtual 44, 3) := by decide +kernel
theorem dX4_setAlarmIfOff_11 : decode cX4_setAlarmIfOff 11 = .ok (.return_, 1) := by decide +kernel
theorem dX5_makeNew_0 : decode cX5_makeNew 0 = .ok (.aload_n 0, 1) := by decide +kernel
theorem dX5_makeNew_1 : decode cX5_makeNew 1 = .ok (.getfield 42, 3) := by decide +kernel
theorem dX5_makeNew_4 : decode cX5_makeNew 4 = .ok (.iconst 0, 1) := by decide +kernel
theorem dX5_makeNew_5 : decode cX5_makeNew 5 = .ok (.putfield 200, 3) := by decide +kernel
theorem dX5_makeNew_8 : decode cX5_makeNew 8 = .ok (.aload_n 0, 1) := by decide +kernel
theorem dX5_makeNew_9 : decode cX5_makeNew 9 = .ok (.iload_n 2, 1) := by decide +kernel
theorem dX5_makeNew_10 : decode cX5_makeNew 10 = .ok (.ifCond .eq 7, 3) := by decide +kernel
theorem dX5_makeNew_13 : decode cX5_makeNew 13 = .ok (.iconst 2, 1) := by decide +kernel
theorem dX5_makeNew_14 : decode cX5_makeNew 14 = .ok (.goto 4, 3) := by decide +kernel
theorem dX5_makeNew_17 : decode cX5_makeNew 17 = .ok (.iconst 0, 1) := by decide +kernel
theorem dX5_makeNew_18 : decode cX5_makeNew 18 = .ok (.aload_n 0, 1) := by decide +kernel
theorem dX5_makeNew_19 : decode cX5_makeNew 19 = .ok (.getfield 21, 3) := by decide +kernel
theorem dX5_makeNew_22 : decode cX5_makeNew 22 = .ok (.getfield 137, 3) := by decide +kernel
theorem dX5_makeNew_25 : decode cX5_makeNew 25 = .ok (.aload_n 0, 1) := by decide +kernel
theorem dX5_makeNew_26 : decode cX5_makeNew 26 = .ok (.getfield 21, 3) := by decide +kernel
theorem dX5_makeNew_29 : decode cX5_makeNew 29 = .ok (.getfield 353, 3) := by decide +kernel
theorem dX5_makeNew_32 : decode cX5_makeNew 32 = .ok (.iload_n 1, 1) := by decide +kernel
theorem dX5_makeNew_33 : decode cX5_makeNew 33 = .ok (.invokevirtual 209, 3) := by decide +kernel
theorem dX5_makeNew_36 : decode cX5_makeNew 36 = .ok (.aload_n 0, 1) := by decide +kernel
theorem dX5_makeNew_37 : decode cX5_makeNew 37 = .ok (.getfield 21, 3) := by decide +kernel
theorem dX5_makeNew_40 : decode cX5_makeNew 40 = .ok (.iload_n 1, 1) := by decide +kernel
theorem dX5_makeNew_41 : decode cX5_makeNew 41 = .ok (.iload_n 2, 1) := by decide +kernel
theorem dX5_makeNew_42 : decode cX5_makeNew 42 = .ok (.invokevirtual 362, 3) := by decide +kernel
theorem dX5_makeNew_45 : decode cX5_makeNew 45 = .ok (.aload_n 0, 1) := by decide +kernel
theorem dX5_makeNew_46 : decode cX5_makeNew 46 = .ok (.getfield 35, 3) := by decide +kernel
theorem dX5_makeNew_49 : decode cX5_makeNew 49 = .ok (.aload_n 0, 1) := by decide +kernel
theorem dX5_makeNew_50 : decode cX5_makeNew 50 = .ok (.getfield 21, 3) := by decide +kernel
theorem dX5_makeNew_53 : decode cX5_makeNew 53 = .ok (.getfield 137, 3) := by decide +kernel
theorem dX5_makeNew_56 : decode cX5_makeNew 56 = .ok (.invokevirtual 347, 3) := by decide +kernel
theorem dX5_makeNew_59 : decode cX5_makeNew 59 = .ok (.aload_n 0, 1) := by decide +kernel
theorem dX5_makeNew_60 : decode cX5_makeNew 60 = .ok (.getfield 35, 3) := by decide +kernel
theorem dX5_makeNew_63 : decode cX5_makeNew 63 = .ok (.invokevirtual 350, 3) := by decide +kernel
theorem dX5_makeNew_66 : decode cX5_makeNew 66 = .ok (.return_, 1) := by decide +kernel
theorem dX5_makeProbe_0 : decode cX5_makeProbe 0 = .ok (.aload_n 0, 1) := by decide +kernel
theorem dX5_makeProbe_1 : decode cX5_makeProbe 1 = .ok (.getfield 21, 3) := by decide +kernel
theorem dX5_makeProbe_4 : decode cX5_makeProbe 4 = .ok (.invokevirtual 359, 3) := by decide +kernel
theorem dX5_makeProbe_7 : decode cX5_makeProbe 7 = .ok (.ifCond .ne 7, 3) := by decide +kernel
theorem dX5_makeProbe_10 : decode cX5_makeProbe 10 = .ok (.iconst 1, 1) := by decide +kernel
theorem dX5_makeProbe_11 : decode cX5_makeProbe 11 = .ok (.goto 4, 3) := by decide +kernel
theorem dX5_makeProbe_14 : decode cX5_makeProbe 14 = .ok (.iconst 0, 1) := by decide +kernel
theorem dX5_makeProbe_15 : decode cX5_makeProbe 15 = .ok (.istore_n 1, 1) := by decide +kernel
theorem dX5_makeProbe_16 : decode cX5_makeProbe 16 = .ok (.aload_n 0, 1) := by decide +kernel
theorem dX5_makeProbe_17 : decode cX5_makeProbe 17 = .ok (.iload_n 1, 1) := by decide +kernel
theorem dX5_makeProbe_18 : decode cX5_makeProbe 18 = .ok (.ifCond .eq 7, 3) := by decide +kernel
theorem dX5_makeProbe_21 : decode cX5_makeProbe 21 = .ok (.iconst 0, 1) := by decide +kernel
theorem dX5_makeProbe_22 : decode cX5_makeProbe 22 = .ok (.goto 4, 3) := by decide +kernel
theorem dX5_makeProbe_25 : decode cX5_makeProbe 25 = .ok (.iconst 1, 1) := by decide +kernel
theorem dX5_makeProbe_26 : decode cX5_makeProbe 26 = .ok (.iload_n 1, 1) := by decide +kernel
theorem dX5_makeProbe_27 : decode cX5_makeProbe 27 = .ok (.invokevirtual 197, 3) := by decide +kernel
theorem dX5_makeProbe_30 : decode cX5_makeProbe 30 = .ok (.return_, 1) := by decide +kernel
theorem dX2_allowed_0 : decode cX2_allowed 0 = .ok (.aload_n 0, 1) := by decide +kernel
theorem dX2_allowed_1 : decode cX2_allowed 1 = .ok (.getfield 56, 3) := by decide +kernel
theorem dX2_allowed_4 : decode cX2_allowed 4 = .ok (.aload_n 0, 1) := by decide +kernel
theorem dX2_allowed_5 : decode cX2_allowed 5 = .ok (.getfield 34, 3) := by decide +kernel
theorem dX2_allowed_8 : decode cX2_allowed 8 = .ok (.aload_n 0, 1) := by decide +kernel
theorem dX2_allowed_9 : decode cX2_allowed 9 = .ok (.getfield 31, 3) := by decide +kernel
theorem dX2_allowed_12 : decode cX2_allowed 12 = .ok (.isub, 1) := by decide +kernel
theorem dX2_allowed_13 : decode cX2_allowed 13 = .ok (.isub, 1) := by decide +kernel
theorem dX2_allowed_14 : decode cX2_allowed 14 = .ok (.ireturn, 1) := by decide +kernel
theorem dX2_newBytes_0 : decode cX2_newBytes 0 = .ok (.iconst 0, 1) := by decide +kernel
theorem dX2_newBytes_1 : decode cX2_newBytes 1 = .ok (.aload_n 0, 1) := by decide +kernel
theorem dX2_newBytes_2 : decode cX2_newBytes 2 = .ok (.invokevirtual 48, 3) := by decide +kernel
theorem dX2_newBytes_5 : decode cX2_newBytes 5 = .ok (.aload_n 0, 1) := by decide +kernel
theorem dX2_newBytes_6 : decode cX2_newBytes 6 = .ok (.getfield 15, 3) := by decide +kernel
theorem dX2_newBytes_9 : decode cX2_newBytes 9 = .ok (.aload_n 0, 1) := by decide +kernel
theorem dX2_newBytes_10 : decode cX2_newBytes 10 = .ok (.invokevirtual 59, 3) := by decide +kernel
theorem dX2_newBytes_13 : decode cX2_newBytes 13 = .ok (.invokestatic 62, 3) := by decide +kernel
theorem dX2_newBytes_16 : decode cX2_newBytes 16 = .ok (.invokestatic 62, 3) := by decide +kernel
theorem dX2_newBytes_19 : decode cX2_newBytes 19 = .ok (.invokestatic 68, 3) := by decide +kernel
theorem dX2_newBytes_22 : decode cX2_newBytes 22 = .ok (.ireturn, 1) := by decide +kernel
theorem dX2_newHasLast_0 : decode cX2_newHasLast 0 = .ok (.aload_n 0, 1) := by decide +kernel
theorem dX2_newHasLast_1 : decode cX2_newHasLast 1 = .ok (.invokevirtual 71, 3) := by decide +kernel
theorem dX2_newHasLast_4 : decode cX2_newHasLast 4 = .ok (.istore_n 1, 1) := by decide +kernel
theorem dX2_newHasLast_5 : decode cX2_newHasLast 5 = .ok (.aload_n 0, 1) := by decide +kernel
theorem dX2_newHasLast_6 : decode cX2_newHasLast 6 = .ok (.getfield 37, 3) := by decide +kernel
theorem dX2_newHasLast_9 : decode cX2_newHasLast 9 = .ok (.ifCond .eq 30, 3) := by decide +kernel
theorem dX2_newHasLast_12 : decode cX2_newHasLast 12 = .ok (.aload_n 0, 1) := by decide +kernel
theorem dX2_newHasLast_13 : decode cX2_newHasLast 13 = .ok (.getfield 41, 3) := by decide +kernel
theorem dX2_newHasLast_16 : decode cX2_newHasLast 16 = .ok (.ifCond .ne 23, 3) := by decide +kernel
theorem dX2_newHasLast_19 : decode cX2_newHasLast 19 = .ok (.iload_n 1, 1) := by decide +kernel
theorem dX2_newHasLast_20 : decode cX2_newHasLast 20 = .ok (.aload_n 0, 1) := by decide +kernel
theorem dX2_newHasLast_21 : decode cX2_newHasLast 21 = .ok (.invokevirtual 48, 3) := by decide +kernel
theorem dX2_newHasLast_24 : decode cX2_newHasLast 24 = .ok (.if_icmp .ne 15, 3) := by decide +kernel
theorem dX2_newHasLast_27 : decode cX2_newHasLast 27 = .ok (.iload_n 1, 1) := by decide +kernel
theorem dX2_newHasLast_28 : decode cX2_newHasLast 28 = .ok (.aload_n 0, 1) := by decide +kernel
theorem dX2_newHasLast_29 : decode cX2_newHasLast 29 = .ok (.invokevirtual 59, 3) := by decide +kernel
theorem dX2_newHasLast_32 : decode cX2_newHasLast 32 = .ok (.if_icmp .ge 7, 3) := by decide +kernel
theorem dX2_newHasLast_35 : decode cX2_newHasLast 35 = .ok (.iconst 1, 1) := by decide +kernel
theorem dX2_newHasLast_36 : decode cX2_newHasLast 36 = .ok (.goto 4, 3) := by decide +kernel
theorem dX2_newHasLast_39 : decode cX2_newHasLast 39 = .ok (.iconst 0, 1) := by decide +kernel
theorem dX2_newHasLast_40 : decode cX2_newHasLast 40 = .ok (.ireturn, 1) := by decide +kernel
theorem dX2_maySend_0 : decode cX2_maySend 0 = .ok (.aload_n 0, 1) := by decide +kernel
theorem dX2_maySend_1 : decode cX2_maySend 1 = .ok (.invokevirtual 71, 3) := by decide +kernel
theorem dX2_maySend_4 : decode cX2_maySend 4 = .ok (.ifCond .gt 10, 3) := by decide +kernel
theorem dX2_maySend_7 : decode cX2_maySend 7 = .ok (.aload_n 0, 1) := by decide +kernel
theorem dX2_maySend_8 : decode cX2_maySend 8 = .ok (.invokevirtual 74, 3) := by decide +kernel
theorem dX2_maySend_11 : decode cX2_maySend 11 = .ok (.ifCond .eq 7, 3) := by decide +kernel
theorem dX2_maySend_14 : decode cX2_maySend 14 = .ok (.iconst 1, 1) := by decide +kernel
theorem dX2_maySend_15 : decode cX2_maySend 15 = .ok (.goto 4, 3) := by decide +kernel
theorem dX2_maySend_18 : decode cX2_maySend 18 = .ok (.iconst 0, 1) := by decide +kernel
theorem dX2_maySend_19 : decode cX2_maySend 19 = .ok (.ireturn, 1) := by decide +kernel
theorem dX5_makeAgain_0 : decode cX5_makeAgain 0 = .ok (.aload_n 0, 1) := by decide +kernel
theorem dX5_makeAgain_1 : decode cX5_makeAgain 1 = .ok (.getfield 42, 3) := by decide +kernel
theorem dX5_makeAgain_4 : decode cX5_makeAgain 4 = .ok (.iconst 0, 1) := by decide +kernel
theorem dX5_makeAgain_5 : decode cX5_makeAgain 5 = .ok (.putfield 179, 3) := by decide +kernel
theorem dX5_makeAgain_8 : decode cX5_makeAgain 8 = .ok (.aload_n 0, 1) := by decide +kernel
theorem dX5_makeAgain_9 : decode cX5_makeAgain 9 = .ok (.getfield 21, 3) := by decide +kernel
theorem dX5_makeAgain_12 : decode cX5_makeAgain 12 = .ok (.getfield 353, 3) := by decide +kernel
theorem dX5_makeAgain_15 : decode cX5_makeAgain 15 = .ok (.aload_n 0, 1) := by decide +kernel
theorem dX5_makeAgain_16 : decode cX5_makeAgain 16 = .ok (.getfield 21, 3) := by decide +kernel
theorem dX5_makeAgain_19 : decode cX5_makeAgain 19 = .ok (.getfield 273, 3) := by decide +kernel
theorem dX5_makeAgain_22 : decode cX5_makeAgain 22 = .ok (.invokestatic 102, 3) := by decide +kernel
theorem dX5_makeAgain_25 : decode cX5_makeAgain 25 = .ok (.istore_n 1, 1) := by decide +kernel
theorem dX5_makeAgain_26 : decode cX5_makeAgain 26 = .ok (.aload_n 0, 1) := by decide +kernel
theorem dX5_makeAgain_27 : decode cX5_makeAgain 27 = .ok (.getfield 21, 3) := by decide +kernel
theorem dX5_makeAgain_30 : decode cX5_makeAgain 30 = .ok (.getfield 356, 3) := by decide +kernel
theorem dX5_makeAgain_33 : decode cX5_makeAgain 33 = .ok (.ifCond .eq 18, 3) := by decide +kernel
theorem dX5_makeAgain_36 : decode cX5_makeAgain 36 = .ok (.iload_n 1, 1) := by decide +kernel
theorem dX5_makeAgain_37 : decode cX5_makeAgain 37 = .ok (.aload_n 0, 1) := by decide +kernel
theorem dX5_makeAgain_38 : decode cX5_makeAgain 38 = .ok (.getfield 21, 3) := by decide +kernel
theorem dX5_makeAgain_41 : decode cX5_makeAgain 41 = .ok (.getfield 353, 3) := by decide +kernel
theorem dX5_makeAgain_44 : decode cX5_makeAgain 44 = .ok (.if_icmp .ne 7, 3) := by decide +kernel
theorem dX5_makeAgain_47 : decode cX5_makeAgain 47 = .ok (.iconst 1, 1) := by decide +kernel
theorem dX5_makeAgain_48 : decode cX5_makeAgain 48 = .ok (.goto 4, 3) := by decide +kernel
theorem dX5_makeAgain_51 : decode cX5_makeAgain 51 = .ok (.iconst 0, 1) := by decide +kernel
theorem dX5_makeAgain_52 : decode cX5_makeAgain 52 = .ok (.istore_n 2, 1) := by decide +kernel
theorem dX5_makeAgain_53 : decode cX5_makeAgain 53 = .ok (.aload_n 0, 1) := by decide +kernel
theorem dX5_makeAgain_54 : decode cX5_makeAgain 54 = .ok (.iload_n 2, 1) := by decide +kernel
theorem dX5_makeAgain_55 : decode cX5_makeAgain 55 = .ok (.ifCond .eq 7, 3) := by decide +kernel
theorem dX5_makeAgain_58 : decode cX5_makeAgain 58 = .ok (.iconst 2, 1) := by decide +kernel
theorem dX5_makeAgain_59 : decode cX5_makeAgain 59 = .ok (.goto 4, 3) := by decide +kernel
theorem dX5_makeAgain_62 : decode cX5_makeAgain 62 = .ok (.iconst 0, 1) := by decide +kernel
theorem dX5_makeAgain_63 : decode cX5_makeAgain 63 = .ok (.aload_n 0, 1) := by decide +kernel
theorem dX5_makeAgain_64 : decode cX5_makeAgain 64 = .ok (.getfield 21, 3) := by decide +kernel
theorem dX5_makeAgain_67 : decode cX5_makeAgain 67 = .ok (.getfield 259, 3) := by decide +kernel
theorem dX5_makeAgain_70 : decode cX5_makeAgain 70 = .ok (.iconst 0, 1) := by decide +kernel
theorem dX5_makeAgain_71 : decode cX5_makeAgain 71 = .ok (.iload_n 1, 1) := by decide +kernel
theorem dX5_makeAgain_72 : decode cX5_makeAgain 72 = .ok (.invokevirtual 209, 3) := by decide +kernel
theorem dX5_makeAgain_75 : decode cX5_makeAgain 75 = .ok (.aload_n 0, 1) := by decide +kernel
theorem dX5_makeAgain_76 : decode cX5_makeAgain 76 = .ok (.getfield 35, 3) := by decide +kernel
theorem dX5_makeAgain_79 : decode cX5_makeAgain 79 = .ok (.iconst 0, 1) := by decide +kernel
theorem dX5_makeAgain_80 : decode cX5_makeAgain 80 = .ok (.putfield 344, 3) := by decide +kernel
theorem dX5_makeAgain_83 : decode cX5_makeAgain 83 = .ok (.return_, 1) := by decide +kernel
theorem dX5_makeOpen_0 : decode cX5_makeOpen 0 = .ok (.aload_n 0, 1) := by decide +kernel
theorem dX5_makeOpen_1 : decode cX5_makeOpen 1 = .ok (.getfield 42, 3) := by decide +kernel
theorem dX5_makeOpen_4 : decode cX5_makeOpen 4 = .ok (.iconst 0, 1) := by decide +kernel
theorem dX5_makeOpen_5 : decode cX5_makeOpen 5 = .ok (.putfield 173, 3) := by decide +kernel
theorem dX5_makeOpen_8 : decode cX5_makeOpen 8 = .ok (.aload_n 0, 1) := by decide +kernel
theorem dX5_makeOpen_9 : decode cX5_makeOpen 9 = .ok (.iconst 1, 1) := by decide +kernel
theorem dX5_makeOpen_10 : decode cX5_makeOpen 10 = .ok (.aload_n 0, 1) := by decide +kernel
theorem dX5_makeOpen_11 : decode cX5_makeOpen 11 = .ok (.getfield 21, 3) := by decide +kernel
theorem dX5_makeOpen_14 : decode cX5_makeOpen 14 = .ok (.getfield 296, 3) := by decide +kernel
theorem dX5_makeOpen_17 : decode cX5_makeOpen 17 = .ok (.iconst 0, 1) := by decide +kernel
theorem dX5_makeOpen_18 : decode cX5_makeOpen 18 = .ok (.iconst 0, 1) := by decide +kernel
theorem dX5_makeOpen_19 : decode cX5_makeOpen 19 = .ok (.invokevirtual 209, 3) := by decide +kernel
theorem dX5_makeOpen_22 : decode cX5_makeOpen 22 = .ok (.aload_n 0, 1) := by decide +kernel
theorem dX5_makeOpen_23 : decode cX5_makeOpen 23 = .ok (.getfield 42, 3) := by decide +kernel
theorem dX5_makeOpen_26 : decode cX5_makeOpen 26 = .ok (.getfield 341, 3) := by decide +kernel
theorem dX5_makeOpen_29 : decode cX5_makeOpen 29 = .ok (.ifCond .eq 14, 3) := by decide +kernel
theorem dX5_makeOpen_32 : decode cX5_makeOpen 32 = .ok (.aload_n 0, 1) := by decide +kernel
theorem dX5_makeOpen_33 : decode cX5_makeOpen 33 = .ok (.getfield 35, 3) := by decide +kernel
theorem dX5_makeOpen_36 : decode cX5_makeOpen 36 = .ok (.iconst 0, 1) := by decide +kernel
theorem dX5_makeOpen_37 : decode cX5_makeOpen 37 = .ok (.putfield 344, 3) := by decide +kernel
theorem dX5_makeOpen_40 : decode cX5_makeOpen 40 = .ok (.goto 25, 3) := by decide +kernel
theorem dX5_makeOpen_43 : decode cX5_makeOpen 43 = .ok (.aload_n 0, 1) := by decide +kernel
theorem dX5_makeOpen_44 : decode cX5_makeOpen 44 = .ok (.getfield 42, 3) := by decide +kernel
theorem dX5_makeOpen_47 : decode cX5_makeOpen 47 = .ok (.iconst 1, 1) := by decide +kernel
theorem dX5_makeOpen_48 : decode cX5_makeOpen 48 = .ok (.putfield 341, 3) := by decide +kernel
theorem dX5_makeOpen_51 : decode cX5_makeOpen 51 = .ok (.aload_n 0, 1) := by decide +kernel
theorem dX5_makeOpen_52 : decode cX5_makeOpen 52 = .ok (.getfield 35, 3) := by decide +kernel
theorem dX5_makeOpen_55 : decode cX5_makeOpen 55 = .ok (.aload_n 0, 1) := by decide +kernel
theorem dX5_makeOpen_56 : decode cX5_makeOpen 56 = .ok (.getfield 21, 3) := by decide +kernel
theorem dX5_makeOpen_59 : decode cX5_makeOpen 59 = .ok (.getfield 137, 3) := by decide +kernel
theorem dX5_makeOpen_62 : decode cX5_makeOpen 62 = .ok (.invokevirtual 347, 3) := by decide +kernel
theorem dX5_makeOpen_65 : decode cX5_makeOpen 65 = .ok (.aload_n 0, 1) := by decide +kernel
theorem dX5_makeOpen_66 : decode cX5_makeOpen 66 = .ok (.getfield 35, 3) := by decide +kernel
theorem dX5_makeOpen_69 : decode cX5_makeOpen 69 = .ok (.invokevirtual 350, 3) := by decide +kernel
theorem dX5_makeOpen_72 : decode cX5_makeOpen 72 = .ok (.return_, 1) := by decide +kernel
theorem dX3_has_0 : decode cX3_has 0 = .ok (.aload_n 0, 1) := by decide +kernel
theorem dX3_has_1 : decode cX3_has 1 = .ok (.getfield 15, 3) := by decide +kernel
theorem dX3_has_4 : decode cX3_has 4 = .ok (.iload_n 1, 1) := by decide +kernel
theorem dX3_has_5 : decode cX3_has 5 = .ok (.iand, 1) := by decide +kernel
theorem dX3_has_6 : decode cX3_has 6 = .ok (.ifCond .eq 7, 3) := by decide +kernel
theorem dX3_has_9 : decode cX3_has 9 = .ok (.iconst 1, 1) := by decide +kernel
theorem dX3_has_10 : decode cX3_has 10 = .ok (.goto 4, 3) := by decide +kernel
theorem dX3_has_13 : decode cX3_has 13 = .ok (.iconst 0, 1) := by decide +kernel
theorem dX3_has_14 : decode cX3_has 14 = .ok (.ireturn, 1) := by decide +kernel
theorem dX5_makeReset_0 : decode cX5_makeReset 0 = .ok (.aload_n 0, 1) := by decide +kernel
theorem dX5_makeReset_1 : decode cX5_makeReset 1 = .ok (.getfield 42, 3) := by decide +kernel
theorem dX5_makeReset_4 : decode cX5_makeReset 4 = .ok (.iconst 0, 1) := by decide +kernel
theorem dX5_makeReset_5 : decode cX5_makeReset 5 = .ok (.putfield 167, 3) := by decide +kernel
theorem dX5_makeReset_8 : decode cX5_makeReset 8 = .ok (.aload_n 0, 1) := by decide +kernel
theorem dX5_makeReset_9 : decode cX5_makeReset 9 = .ok (.getfield 53, 3) := by decide +kernel
theorem dX5_makeReset_12 : decode cX5_makeReset 12 = .ok (.aload_n 0, 1) := by decide +kernel
theorem dX5_makeReset_13 : decode cX5_makeReset 13 = .ok (.getfield 42, 3) := by decide +kernel
theorem dX5_makeReset_16 : decode cX5_makeReset 16 = .ok (.getfield 329, 3) := by decide +kernel
theorem dX5_makeReset_19 : decode cX5_makeReset 19 = .ok (.aload_n 0, 1) := by decide +kernel
theorem dX5_makeReset_20 : decode cX5_makeReset 20 = .ok (.getfield 42, 3) := by decide +kernel
theorem dX5_makeReset_23 : decode cX5_makeReset 23 = .ok (.getfield 332, 3) := by decide +kernel
theorem dX5_makeReset_26 : decode cX5_makeReset 26 = .ok (.aload_n 0, 1) := by decide +kernel
theorem dX5_makeReset_27 : decode cX5_makeReset 27 = .ok (.getfield 42, 3) := by decide +kernel
theorem dX5_makeReset_30 : decode cX5_makeReset 30 = .ok (.getfield 335, 3) := by decide +kernel
theorem dX5_makeReset_33 : decode cX5_makeReset 33 = .ok (.iconst 0, 1) := by decide +kernel
theorem dX5_makeReset_34 : decode cX5_makeReset 34 = .ok (.iconst 0, 1) := by decide +kernel
theorem dX5_makeReset_35 : decode cX5_makeReset 35 = .ok (.invokevirtual 252, 3) := by decide +kernel
theorem dX5_makeReset_38 : decode cX5_makeReset 38 = .ok (.aload_n 0, 1) := by decide +kernel
theorem dX5_makeReset_39 : decode cX5_makeReset 39 = .ok (.getfield 53, 3) := by decide +kernel
theorem dX5_makeReset_42 : decode cX5_makeReset 42 = .ok (.iconst 0, 1) := by decide +kernel
theorem dX5_makeReset_43 : decode cX5_makeReset 43 = .ok (.putfield 230, 3) := by decide +kernel
theorem dX5_makeReset_46 : decode cX5_makeReset 46 = .ok (.aload_n 0, 1) := by decide +kernel
theorem dX5_makeReset_47 : decode cX5_makeReset 47 = .ok (.getfield 53, 3) := by decide +kernel
theorem dX5_makeReset_50 : decode cX5_makeReset 50 = .ok (.bipush 8, 2) := by decide +kernel
theorem dX5_makeReset_52 : decode cX5_makeReset 52 = .ok (.invokevirtual 338, 3) := by decide +kernel
theorem dX5_makeReset_55 : decode cX5_makeReset 55 = .ok (.ifCond .eq 11, 3) := by decide +kernel
theorem dX5_makeReset_58 : decode cX5_makeReset 58 = .ok (.aload_n 0, 1) := by decide +kernel
theorem dX5_makeReset_59 : decode cX5_makeReset 59 = .ok (.getfield 42, 3) := by decide +kernel
theorem dX5_makeReset_62 : decode cX5_makeReset 62 = .ok (.iconst 0, 1) := by decide +kernel
theorem dX5_makeReset_63 : decode cX5_makeReset 63 = .ok (.putfield 206, 3) := by decide +kernel
theorem dX5_makeReset_66 : decode cX5_makeReset 66 = .ok (.return_, 1) := by decide +kernel
theorem dX5_next_0 : decode cX5_next 0 = .ok (.aload_n 0, 1) := by decide +kernel
theorem dX5_next_1 : decode cX5_next 1 = .ok (.getfield 42, 3) := by decide +kernel
theorem dX5_next_4 : decode cX5_next 4 = .ok (.getfield 167, 3) := by decide +kernel
theorem dX5_next_7 : decode cX5_next 7 = .ok (.ifCond .eq 10, 3) := by decide +kernel
theorem dX5_next_10 : decode cX5_next 10 = .ok (.aload_n 0, 1) := by decide +kernel
theorem dX5_next_11 : decode cX5_next 11 = .ok (.invokevirtual 170, 3) := by decide +kernel
theorem dX5_next_14 : decode cX5_next 14 = .ok (.goto 121, 3) := by decide +kernel
theorem dX5_next_17 : decode cX5_next 17 = .ok (.aload_n 0, 1) := by decide +kernel
theorem dX5_next_18 : decode cX5_next 18 = .ok (.getfield 42, 3) := by decide +kernel
theorem dX5_next_21 : decode cX5_next 21 = .ok (.getfield 173, 3) := by decide +kernel
theorem dX5_next_24 : decode cX5_next 24 = .ok (.ifCond .eq 10, 3) := by decide +kernel
theorem dX5_next_27 : decode cX5_next 27 = .ok (.aload_n 0, 1) := by decide +kernel
theorem dX5_next_28 : decode cX5_next 28 = .ok (.invokevirtual 176, 3) := by decide +kernel
theorem dX5_next_31 : decode cX5_next 31 = .ok (.goto 104, 3) := by decide +kernel
theorem dX5_next_34 : decode cX5_next 34 = .ok (.aload_n 0, 1) := by decide +kernel
theorem dX5_next_35 : decode cX5_next 35 = .ok (.getfield 42, 3) := by decide +kernel
theorem dX5_next_38 : decode cX5_next 38 = .ok (.getfield 179, 3) := by decide +kernel
theorem dX5_next_41 : decode cX5_next 41 = .ok (.ifCond .eq 10, 3) := by decide +kernel
theorem dX5_next_44 : decode cX5_next 44 = .ok (.aload_n 0, 1) := by decide +kernel
theorem dX5_next_45 : decode cX5_next 45 = .ok (.invokevirtual 182, 3) := by decide +kernel
theorem dX5_next_48 : decode cX5_next 48 = .ok (.goto 87, 3) := by decide +kernel
theorem dX5_next_51 : decode cX5_next 51 = .ok (.aload_n 0, 1) := by decide +kernel
theorem dX5_next_52 : decode cX5_next 52 = .ok (.invokevirtual 185, 3) := by decide +kernel
theorem dX5_next_55 : decode cX5_next 55 = .ok (.ifCond .eq 34, 3) := by decide +kernel
theorem dX5_next_58 : decode cX5_next 58 = .ok (.aload_n 0, 1) := by decide +kernel
theorem dX5_next_59 : decode cX5_next 59 = .ok (.getfield 21, 3) := by decide +kernel
theorem dX5_next_62 : decode cX5_next 62 = .ok (.invokevirtual 188, 3) := by decide +kernel
theorem dX5_next_65 : decode cX5_next 65 = .ok (.ifCond .eq 24, 3) := by decide +kernel
theorem dX5_next_68 : decode cX5_next 68 = .ok (.aload_n 0, 1) := by decide +kernel
theorem dX5_next_69 : decode cX5_next 69 = .ok (.aload_n 0, 1) := by decide +kernel
theorem dX5_next_70 : decode cX5_next 70 = .ok (.getfield 21, 3) := by decide +kernel
theorem dX5_next_73 : decode cX5_next 73 = .ok (.invokevirtual 191, 3) := by decide +kernel
theorem dX5_next_76 : decode cX5_next 76 = .ok (.aload_n 0, 1) := by decide +kernel
theorem dX5_next_77 : decode cX5_next 77 = .ok (.getfield 21, 3) := by decide +kernel
theorem dX5_next_80 : decode cX5_next 80 = .ok (.invokevirtual 194, 3) := by decide +kernel
theorem dX5_next_83 : decode cX5_next 83 = .ok (.invokevirtual 197, 3) := by decide +kernel
theorem dX5_next_86 : decode cX5_next 86 = .ok (.goto 49, 3) := by decide +kernel
theorem dX5_next_89 : decode cX5_next 89 = .ok (.aload_n 0, 1) := by decide +kernel
theorem dX5_next_90 : decode cX5_next 90 = .ok (.getfield 42, 3) := by decide +kernel
theorem dX5_next_93 : decode cX5_next 93 = .ok (.getfield 200, 3) := by decide +kernel
theorem dX5_next_96 : decode cX5_next 96 = .ok (.ifCond .eq 10, 3) := by decide +kernel
theorem dX5_next_99 : decode cX5_next 99 = .ok (.aload_n 0, 1) := by decide +kernel
theorem dX5_next_100 : decode cX5_next 100 = .ok (.invokevirtual 203, 3) := by decide +kernel
theorem dX5_next_103 : decode cX5_next 103 = .ok (.goto 32, 3) := by decide +kernel
theorem dX5_next_106 : decode cX5_next 106 = .ok (.aload_n 0, 1) := by decide +kernel
theorem dX5_next_107 : decode cX5_next 107 = .ok (.getfield 42, 3) := by decide +kernel
theorem dX5_next_110 : decode cX5_next 110 = .ok (.getfield 206, 3) := by decide +kernel
theorem dX5_next_113 : decode cX5_next 113 = .ok (.ifCond .eq 20, 3) := by decide +kernel
theorem dX5_next_116 : decode cX5_next 116 = .ok (.aload_n 0, 1) := by decide +kernel
theorem dX5_next_117 : decode cX5_next 117 = .ok (.iconst 0, 1) := by decide +kernel
theorem dX5_next_118 : decode cX5_next 118 = .ok (.aload_n 0, 1) := by decide +kernel
theorem dX5_next_119 : decode cX5_next 119 = .ok (.getfield 21, 3) := by decide +kernel
theorem dX5_next_122 : decode cX5_next 122 = .ok (.getfield 137, 3) := by decide +kernel
theorem dX5_next_125 : decode cX5_next 125 = .ok (.iconst 0, 1) := by decide +kernel
theorem dX5_next_126 : decode cX5_next 126 = .ok (.iconst 0, 1) := by decide +kernel
theorem dX5_next_127 : decode cX5_next 127 = .ok (.invokevirtual 209, 3) := by decide +kernel
theorem dX5_next_130 : decode cX5_next 130 = .ok (.goto 5, 3) := by decide +kernel
theorem dX5_next_133 : decode cX5_next 133 = .ok (.iconst 0, 1) := by decide +kernel
end
section
/-! written by program (wip/gen) -/
theorem dX5_next_134 : decode cX5_next 134 = .ok (.ireturn, 1) := by decide +kernel
theorem dX5_next_135 : decode cX5_next 135 = .ok (.aload_n 0, 1) := by decide +kernel
theorem dX5_next_136 : decode cX5_next 136 = .ok (.iconst 1, 1) := by decide +kernel
theorem dX5_next_137 : decode cX5_next 137 = .ok (.putfield 56, 3) := by decide +kernel
theorem dX5_next_140 : decode cX5_next 140 = .ok (.iconst 1, 1) := by decide +kernel
theorem dX5_next_141 : decode cX5_next 141 = .ok (.ireturn, 1) := by decide +kernel
theorem dX5_segment_0 : decode cX5_segment 0 = .ok (.iload_n 1, 1) := by decide +kernel
theorem dX5_segment_1 : decode cX5_segment 1 = .ok (.ifCond .lt 8, 3) := by decide +kernel
theorem dX5_segment_4 : decode cX5_segment 4 = .ok (.iload_n 1, 1) := by decide +kernel
theorem dX5_segment_5 : decode cX5_segment 5 = .ok (.iconst 5, 1) := by decide +kernel
theorem dX5_segment_6 : decode cX5_segment 6 = .ok (.if_icmp .le 13, 3) := by decide +kernel
theorem dX5_segment_9 : decode cX5_segment 9 = .ok (.new 88, 3) := by decide +kernel
theorem dX5_segment_12 : decode cX5_segment 12 = .ok (.dup, 1) := by decide +kernel
theorem dX5_segment_13 : decode cX5_segment 13 = .ok (.ldc 213, 2) := by decide +kernel
theorem dX5_segment_15 : decode cX5_segment 15 = .ok (.invokespecial 92, 3) := by decide +kernel
theorem dX5_segment_18 : decode cX5_segment 18 = .ok (.athrow, 1) := by decide +kernel
theorem dX5_segment_19 : decode cX5_segment 19 = .ok (.aload_n 0, 1) := by decide +kernel
theorem dX5_segment_20 : decode cX5_segment 20 = .ok (.getfield 56, 3) := by decide +kernel
theorem dX5_segment_23 : decode cX5_segment 23 = .ok (.ifCond .ne 13, 3) := by decide +kernel
theorem dX5_segment_26 : decode cX5_segment 26 = .ok (.new 73, 3) := by decide +kernel
theorem dX5_segment_29 : decode cX5_segment 29 = .ok (.dup, 1) := by decide +kernel
theorem dX5_segment_30 : decode cX5_segment 30 = .ok (.ldc 215, 2) := by decide +kernel
theorem dX5_segment_32 : decode cX5_segment 32 = .ok (.invokespecial 77, 3) := by decide +kernel
theorem dX5_segment_35 : decode cX5_segment 35 = .ok (.athrow, 1) := by decide +kernel
theorem dX5_segment_36 : decode cX5_segment 36 = .ok (.iload_n 1, 1) := by decide +kernel
theorem dX5_segment_37 : decode cX5_segment 37 = .ok (.tableswitch 75 0 4 #[35, 43, 51, 59, 67], 35) := by decide +kernel
theorem dX5_segment_72 : decode cX5_segment 72 = .ok (.aload_n 0, 1) := by decide +kernel
theorem dX5_segment_73 : decode cX5_segment 73 = .ok (.getfield 53, 3) := by decide +kernel
theorem dX5_segment_76 : decode cX5_segment 76 = .ok (.getfield 217, 3) := by decide +kernel
theorem dX5_segment_79 : decode cX5_segment 79 = .ok (.ireturn, 1) := by decide +kernel
theorem dX5_segment_80 : decode cX5_segment 80 = .ok (.aload_n 0, 1) := by decide +kernel
theorem dX5_segment_81 : decode cX5_segment 81 = .ok (.getfield 53, 3) := by decide +kernel
theorem dX5_segment_84 : decode cX5_segment 84 = .ok (.getfield 220, 3) := by decide +kernel
theorem dX5_segment_87 : decode cX5_segment 87 = .ok (.ireturn, 1) := by decide +kernel
theorem dX5_segment_88 : decode cX5_segment 88 = .ok (.aload_n 0, 1) := by decide +kernel
theorem dX5_segment_89 : decode cX5_segment 89 = .ok (.getfield 53, 3) := by decide +kernel
theorem dX5_segment_92 : decode cX5_segment 92 = .ok (.getfield 223, 3) := by decide +kernel
theorem dX5_segment_95 : decode cX5_segment 95 = .ok (.ireturn, 1) := by decide +kernel
theorem dX5_segment_96 : decode cX5_segment 96 = .ok (.aload_n 0, 1) := by decide +kernel
theorem dX5_segment_97 : decode cX5_segment 97 = .ok (.getfield 53, 3) := by decide +kernel
theorem dX5_segment_100 : decode cX5_segment 100 = .ok (.getfield 226, 3) := by decide +kernel
theorem dX5_segment_103 : decode cX5_segment 103 = .ok (.ireturn, 1) := by decide +kernel
theorem dX5_segment_104 : decode cX5_segment 104 = .ok (.aload_n 0, 1) := by decide +kernel
theorem dX5_segment_105 : decode cX5_segment 105 = .ok (.getfield 53, 3) := by decide +kernel
theorem dX5_segment_108 : decode cX5_segment 108 = .ok (.getfield 229, 3) := by decide +kernel
theorem dX5_segment_111 : decode cX5_segment 111 = .ok (.ireturn, 1) := by decide +kernel
theorem dX5_segment_112 : decode cX5_segment 112 = .ok (.aload_n 0, 1) := by decide +kernel
theorem dX5_segment_113 : decode cX5_segment 113 = .ok (.getfield 53, 3) := by decide +kernel
theorem dX5_segment_116 : decode cX5_segment 116 = .ok (.getfield 230, 3) := by decide +kernel
theorem dX5_segment_119 : decode cX5_segment 119 = .ok (.ireturn, 1) := by decide +kernel
theorem dX5_byteAt_0 : decode cX5_byteAt 0 = .ok (.aload_n 0, 1) := by decide +kernel
theorem dX5_byteAt_1 : decode cX5_byteAt 1 = .ok (.getfield 56, 3) := by decide +kernel
theorem dX5_byteAt_4 : decode cX5_byteAt 4 = .ok (.ifCond .ne 13, 3) := by decide +kernel
theorem dX5_byteAt_7 : decode cX5_byteAt 7 = .ok (.new 73, 3) := by decide +kernel
theorem dX5_byteAt_10 : decode cX5_byteAt 10 = .ok (.dup, 1) := by decide +kernel
theorem dX5_byteAt_11 : decode cX5_byteAt 11 = .ok (.ldc 215, 2) := by decide +kernel
theorem dX5_byteAt_13 : decode cX5_byteAt 13 = .ok (.invokespecial 77, 3) := by decide +kernel
theorem dX5_byteAt_16 : decode cX5_byteAt 16 = .ok (.athrow, 1) := by decide +kernel
theorem dX5_byteAt_17 : decode cX5_byteAt 17 = .ok (.iload_n 1, 1) := by decide +kernel
theorem dX5_byteAt_18 : decode cX5_byteAt 18 = .ok (.ifCond .lt 14, 3) := by decide +kernel
theorem dX5_byteAt_21 : decode cX5_byteAt 21 = .ok (.iload_n 1, 1) := by decide +kernel
theorem dX5_byteAt_22 : decode cX5_byteAt 22 = .ok (.aload_n 0, 1) := by decide +kernel
theorem dX5_byteAt_23 : decode cX5_byteAt 23 = .ok (.getfield 53, 3) := by decide +kernel
theorem dX5_byteAt_26 : decode cX5_byteAt 26 = .ok (.getfield 230, 3) := by decide +kernel
theorem dX5_byteAt_29 : decode cX5_byteAt 29 = .ok (.if_icmp .lt 13, 3) := by decide +kernel
theorem dX5_byteAt_32 : decode cX5_byteAt 32 = .ok (.new 233, 3) := by decide +kernel
theorem dX5_byteAt_35 : decode cX5_byteAt 35 = .ok (.dup, 1) := by decide +kernel
theorem dX5_byteAt_36 : decode cX5_byteAt 36 = .ok (.ldc 235, 2) := by decide +kernel
theorem dX5_byteAt_38 : decode cX5_byteAt 38 = .ok (.invokespecial 237, 3) := by decide +kernel
theorem dX5_byteAt_41 : decode cX5_byteAt 41 = .ok (.athrow, 1) := by decide +kernel
theorem dX5_byteAt_42 : decode cX5_byteAt 42 = .ok (.aload_n 0, 1) := by decide +kernel
theorem dX5_byteAt_43 : decode cX5_byteAt 43 = .ok (.getfield 53, 3) := by decide +kernel
theorem dX5_byteAt_46 : decode cX5_byteAt 46 = .ok (.getfield 238, 3) := by decide +kernel
theorem dX5_byteAt_49 : decode cX5_byteAt 49 = .ok (.iload_n 1, 1) := by decide +kernel
theorem dX5_byteAt_50 : decode cX5_byteAt 50 = .ok (.baload, 1) := by decide +kernel
theorem dX5_byteAt_51 : decode cX5_byteAt 51 = .ok (.sipush 255, 3) := by decide +kernel
theorem dX5_byteAt_54 : decode cX5_byteAt 54 = .ok (.iand, 1) := by decide +kernel
theorem dX5_byteAt_55 : decode cX5_byteAt 55 = .ok (.ireturn, 1) := by decide +kernel
theorem dX5_feed_0 : decode cX5_feed 0 = .ok (.iload_n 3, 1) := by decide +kernel
theorem dX5_feed_1 : decode cX5_feed 1 = .ok (.invokestatic 84, 3) := by decide +kernel
theorem dX5_feed_4 : decode cX5_feed 4 = .ok (.ifCond .ne 13, 3) := by decide +kernel
theorem dX5_feed_7 : decode cX5_feed 7 = .ok (.new 88, 3) := by decide +kernel
theorem dX5_feed_10 : decode cX5_feed 10 = .ok (.dup, 1) := by decide +kernel
theorem dX5_feed_11 : decode cX5_feed 11 = .ok (.ldc 242, 2) := by decide +kernel
theorem dX5_feed_13 : decode cX5_feed 13 = .ok (.invokespecial 92, 3) := by decide +kernel
theorem dX5_feed_16 : decode cX5_feed 16 = .ok (.athrow, 1) := by decide +kernel
theorem dX5_feed_17 : decode cX5_feed 17 = .ok (.iload_n 3, 1) := by decide +kernel
theorem dX5_feed_18 : decode cX5_feed 18 = .ok (.sipush 1460, 3) := by decide +kernel
theorem dX5_feed_21 : decode cX5_feed 21 = .ok (.aload_n 0, 1) := by decide +kernel
theorem dX5_feed_22 : decode cX5_feed 22 = .ok (.getfield 49, 3) := by decide +kernel
theorem dX5_feed_25 : decode cX5_feed 25 = .ok (.getfield 230, 3) := by decide +kernel
theorem dX5_feed_28 : decode cX5_feed 28 = .ok (.isub, 1) := by decide +kernel
theorem dX5_feed_29 : decode cX5_feed 29 = .ok (.if_icmp .le 13, 3) := by decide +kernel
theorem dX5_feed_32 : decode cX5_feed 32 = .ok (.new 73, 3) := by decide +kernel
theorem dX5_feed_35 : decode cX5_feed 35 = .ok (.dup, 1) := by decide +kernel
theorem dX5_feed_36 : decode cX5_feed 36 = .ok (.ldc 244, 2) := by decide +kernel
theorem dX5_feed_38 : decode cX5_feed 38 = .ok (.invokespecial 77, 3) := by decide +kernel
theorem dX5_feed_41 : decode cX5_feed 41 = .ok (.athrow, 1) := by decide +kernel
theorem dX5_feed_42 : decode cX5_feed 42 = .ok (.iconst 0, 1) := by decide +kernel
theorem dX5_feed_43 : decode cX5_feed 43 = .ok (.istore 4, 2) := by decide +kernel
theorem dX5_feed_45 : decode cX5_feed 45 = .ok (.iload 4, 2) := by decide +kernel
theorem dX5_feed_47 : decode cX5_feed 47 = .ok (.iload_n 3, 1) := by decide +kernel
theorem dX5_feed_48 : decode cX5_feed 48 = .ok (.if_icmp .ge 23, 3) := by decide +kernel
theorem dX5_feed_51 : decode cX5_feed 51 = .ok (.aload_n 0, 1) := by decide +kernel
theorem dX5_feed_52 : decode cX5_feed 52 = .ok (.getfield 49, 3) := by decide +kernel
theorem dX5_feed_55 : decode cX5_feed 55 = .ok (.lload_n 1, 1) := by decide +kernel
theorem dX5_feed_56 : decode cX5_feed 56 = .ok (.iload_n 3, 1) := by decide +kernel
theorem dX5_feed_57 : decode cX5_feed 57 = .ok (.iload 4, 2) := by decide +kernel
theorem dX5_feed_59 : decode cX5_feed 59 = .ok (.invokestatic 108, 3) := by decide +kernel
theorem dX5_feed_62 : decode cX5_feed 62 = .ok (.invokevirtual 246, 3) := by decide +kernel
theorem dX5_feed_65 : decode cX5_feed 65 = .ok (.iinc 4 1, 3) := by decide +kernel
theorem dX5_feed_68 : decode cX5_feed 68 = .ok (.goto (-23), 3) := by decide +kernel
theorem dX5_feed_71 : decode cX5_feed 71 = .ok (.aload_n 0, 1) := by decide +kernel
theorem dX5_feed_72 : decode cX5_feed 72 = .ok (.getfield 49, 3) := by decide +kernel
theorem dX5_feed_75 : decode cX5_feed 75 = .ok (.getfield 230, 3) := by decide +kernel
theorem dX5_feed_78 : decode cX5_feed 78 = .ok (.ireturn, 1) := by decide +kernel
theorem dX5_isWidth_0 : decode cX5_isWidth 0 = .ok (.iload_n 0, 1) := by decide +kernel
theorem dX5_isWidth_1 : decode cX5_isWidth 1 = .ok (.ifCond .lt 14, 3) := by decide +kernel
theorem dX5_isWidth_4 : decode cX5_isWidth 4 = .ok (.iload_n 0, 1) := by decide +kernel
theorem dX5_isWidth_5 : decode cX5_isWidth 5 = .ok (.ldc_w 284, 3) := by decide +kernel
theorem dX5_isWidth_8 : decode cX5_isWidth 8 = .ok (.if_icmp .gt 7, 3) := by decide +kernel
theorem dX5_isWidth_11 : decode cX5_isWidth 11 = .ok (.iconst 1, 1) := by decide +kernel
theorem dX5_isWidth_12 : decode cX5_isWidth 12 = .ok (.goto 4, 3) := by decide +kernel
theorem dX5_isWidth_15 : decode cX5_isWidth 15 = .ok (.iconst 0, 1) := by decide +kernel
theorem dX5_isWidth_16 : decode cX5_isWidth 16 = .ok (.ireturn, 1) := by decide +kernel
theorem dX3_size_0 : decode cX3_size 0 = .ok (.aload_n 0, 1) := by decide +kernel
theorem dX3_size_1 : decode cX3_size 1 = .ok (.getfield 31, 3) := by decide +kernel
theorem dX3_size_4 : decode cX3_size 4 = .ok (.aload_n 0, 1) := by decide +kernel
theorem dX3_size_5 : decode cX3_size 5 = .ok (.iconst 1, 1) := by decide +kernel
theorem dX3_size_6 : decode cX3_size 6 = .ok (.invokevirtual 34, 3) := by decide +kernel
theorem dX3_size_9 : decode cX3_size 9 = .ok (.ifCond .eq 7, 3) := by decide +kernel
theorem dX3_size_12 : decode cX3_size 12 = .ok (.iconst 1, 1) := by decide +kernel
theorem dX3_size_13 : decode cX3_size 13 = .ok (.goto 4, 3) := by decide +kernel
theorem dX3_size_16 : decode cX3_size 16 = .ok (.iconst 0, 1) := by decide +kernel
theorem dX3_size_17 : decode cX3_size 17 = .ok (.iadd, 1) := by decide +kernel
theorem dX3_size_18 : decode cX3_size 18 = .ok (.aload_n 0, 1) := by decide +kernel
theorem dX3_size_19 : decode cX3_size 19 = .ok (.iconst 2, 1) := by decide +kernel
theorem dX3_size_20 : decode cX3_size 20 = .ok (.invokevirtual 34, 3) := by decide +kernel
theorem dX3_size_23 : decode cX3_size 23 = .ok (.ifCond .eq 7, 3) := by decide +kernel
theorem dX3_size_26 : decode cX3_size 26 = .ok (.iconst 1, 1) := by decide +kernel
theorem dX3_size_27 : decode cX3_size 27 = .ok (.goto 4, 3) := by decide +kernel
theorem dX3_size_30 : decode cX3_size 30 = .ok (.iconst 0, 1) := by decide +kernel
theorem dX3_size_31 : decode cX3_size 31 = .ok (.iadd, 1) := by decide +kernel
theorem dX3_size_32 : decode cX3_size 32 = .ok (.ireturn, 1) := by decide +kernel
theorem dX1_fits_0 : decode cX1_fits 0 = .ok (.iload_n 1, 1) := by decide +kernel
theorem dX1_fits_1 : decode cX1_fits 1 = .ok (.aload_n 0, 1) := by decide +kernel
theorem dX1_fits_2 : decode cX1_fits 2 = .ok (.getfield 25, 3) := by decide +kernel
theorem dX1_fits_5 : decode cX1_fits 5 = .ok (.isub, 1) := by decide +kernel
theorem dX1_fits_6 : decode cX1_fits 6 = .ok (.istore_n 3, 1) := by decide +kernel
theorem dX1_fits_7 : decode cX1_fits 7 = .ok (.iload_n 2, 1) := by decide +kernel
theorem dX1_fits_8 : decode cX1_fits 8 = .ok (.ifCond .ne 25, 3) := by decide +kernel
theorem dX1_fits_11 : decode cX1_fits 11 = .ok (.iload_n 3, 1) := by decide +kernel
theorem dX1_fits_12 : decode cX1_fits 12 = .ok (.ifCond .eq 15, 3) := by decide +kernel
theorem dX1_fits_15 : decode cX1_fits 15 = .ok (.iload_n 3, 1) := by decide +kernel
theorem dX1_fits_16 : decode cX1_fits 16 = .ok (.ifCond .le 15, 3) := by decide +kernel
theorem dX1_fits_19 : decode cX1_fits 19 = .ok (.iload_n 3, 1) := by decide +kernel
theorem dX1_fits_20 : decode cX1_fits 20 = .ok (.aload_n 0, 1) := by decide +kernel
theorem dX1_fits_21 : decode cX1_fits 21 = .ok (.invokevirtual 44, 3) := by decide +kernel
theorem dX1_fits_24 : decode cX1_fits 24 = .ok (.if_icmp .ge 7, 3) := by decide +kernel
theorem dX1_fits_27 : decode cX1_fits 27 = .ok (.iconst 1, 1) := by decide +kernel
theorem dX1_fits_28 : decode cX1_fits 28 = .ok (.goto 4, 3) := by decide +kernel
theorem dX1_fits_31 : decode cX1_fits 31 = .ok (.iconst 0, 1) := by decide +kernel
theorem dX1_fits_32 : decode cX1_fits 32 = .ok (.ireturn, 1) := by decide +kernel
theorem dX1_fits_33 : decode cX1_fits 33 = .ok (.aload_n 0, 1) := by decide +kernel
theorem dX1_fits_34 : decode cX1_fits 34 = .ok (.invokevirtual 44, 3) := by decide +kernel
theorem dX1_fits_37 : decode cX1_fits 37 = .ok (.ifCond .le 21, 3) := by decide +kernel
theorem dX1_fits_40 : decode cX1_fits 40 = .ok (.iload_n 3, 1) := by decide +kernel
theorem dX1_fits_41 : decode cX1_fits 41 = .ok (.iload_n 2, 1) := by decide +kernel
theorem dX1_fits_42 : decode cX1_fits 42 = .ok (.ineg, 1) := by decide +kernel
theorem dX1_fits_43 : decode cX1_fits 43 = .ok (.if_icmp .le 15, 3) := by decide +kernel
theorem dX1_fits_46 : decode cX1_fits 46 = .ok (.iload_n 3, 1) := by decide +kernel
theorem dX1_fits_47 : decode cX1_fits 47 = .ok (.aload_n 0, 1) := by decide +kernel
theorem dX1_fits_48 : decode cX1_fits 48 = .ok (.invokevirtual 44, 3) := by decide +kernel
theorem dX1_fits_51 : decode cX1_fits 51 = .ok (.if_icmp .ge 7, 3) := by decide +kernel
theorem dX1_fits_54 : decode cX1_fits 54 = .ok (.iconst 1, 1) := by decide +kernel
theorem dX1_fits_55 : decode cX1_fits 55 = .ok (.goto 4, 3) := by decide +kernel
theorem dX1_fits_58 : decode cX1_fits 58 = .ok (.iconst 0, 1) := by decide +kernel
theorem dX1_fits_59 : decode cX1_fits 59 = .ok (.ireturn, 1) := by decide +kernel
theorem dX5_isBefore_0 : decode cX5_isBefore 0 = .ok (.iload_n 1, 1) := by decide +kernel
theorem dX5_isBefore_1 : decode cX5_isBefore 1 = .ok (.iload_n 0, 1) := by decide +kernel
theorem dX5_isBefore_2 : decode cX5_isBefore 2 = .ok (.isub, 1) := by decide +kernel
theorem dX5_isBefore_3 : decode cX5_isBefore 3 = .ok (.ifCond .le 7, 3) := by decide +kernel
theorem dX5_isBefore_6 : decode cX5_isBefore 6 = .ok (.iconst 1, 1) := by decide +kernel
theorem dX5_isBefore_7 : decode cX5_isBefore 7 = .ok (.goto 4, 3) := by decide +kernel
theorem dX5_isBefore_10 : decode cX5_isBefore 10 = .ok (.iconst 0, 1) := by decide +kernel
theorem dX5_isBefore_11 : decode cX5_isBefore 11 = .ok (.ireturn, 1) := by decide +kernel
theorem dX5_isNotBehind_0 : decode cX5_isNotBehind 0 = .ok (.iload_n 1, 1) := by decide +kernel
theorem dX5_isNotBehind_1 : decode cX5_isNotBehind 1 = .ok (.iload_n 0, 1) := by decide +kernel
theorem dX5_isNotBehind_2 : decode cX5_isNotBehind 2 = .ok (.isub, 1) := by decide +kernel
theorem dX5_isNotBehind_3 : decode cX5_isNotBehind 3 = .ok (.ifCond .lt 7, 3) := by decide +kernel
theorem dX5_isNotBehind_6 : decode cX5_isNotBehind 6 = .ok (.iconst 1, 1) := by decide +kernel
theorem dX5_isNotBehind_7 : decode cX5_isNotBehind 7 = .ok (.goto 4, 3) := by decide +kernel
theorem dX5_isNotBehind_10 : decode cX5_isNotBehind 10 = .ok (.iconst 0, 1) := by decide +kernel
theorem dX5_isNotBehind_11 : decode cX5_isNotBehind 11 = .ok (.ireturn, 1) := by decide +kernel
theorem dX2_windowIsOlderThan_0 : decode cX2_windowIsOlderThan 0 = .ok (.aload_n 0, 1) := by decide +kernel
theorem dX2_windowIsOlderThan_1 : decode cX2_windowIsOlderThan 1 = .ok (.getfield 84, 3) := by decide +kernel
theorem dX2_windowIsOlderThan_4 : decode cX2_windowIsOlderThan 4 = .ok (.aload_n 1, 1) := by decide +kernel
theorem dX2_windowIsOlderThan_5 : decode cX2_windowIsOlderThan 5 = .ok (.getfield 90, 3) := by decide +kernel
theorem dX2_windowIsOlderThan_8 : decode cX2_windowIsOlderThan 8 = .ok (.invokestatic 93, 3) := by decide +kernel
theorem dX2_windowIsOlderThan_11 : decode cX2_windowIsOlderThan 11 = .ok (.ifCond .ne 28, 3) := by decide +kernel
theorem dX2_windowIsOlderThan_14 : decode cX2_windowIsOlderThan 14 = .ok (.aload_n 0, 1) := by decide +kernel
theorem dX2_windowIsOlderThan_15 : decode cX2_windowIsOlderThan 15 = .ok (.getfield 84, 3) := by decide +kernel
theorem dX2_windowIsOlderThan_18 : decode cX2_windowIsOlderThan 18 = .ok (.aload_n 1, 1) := by decide +kernel
theorem dX2_windowIsOlderThan_19 : decode cX2_windowIsOlderThan 19 = .ok (.getfield 90, 3) := by decide +kernel
theorem dX2_windowIsOlderThan_22 : decode cX2_windowIsOlderThan 22 = .ok (.if_icmp .ne 21, 3) := by decide +kernel
theorem dX2_windowIsOlderThan_25 : decode cX2_windowIsOlderThan 25 = .ok (.aload_n 0, 1) := by decide +kernel
theorem dX2_windowIsOlderThan_26 : decode cX2_windowIsOlderThan 26 = .ok (.getfield 87, 3) := by decide +kernel
theorem dX2_windowIsOlderThan_29 : decode cX2_windowIsOlderThan 29 = .ok (.aload_n 1, 1) := by decide +kernel
theorem dX2_windowIsOlderThan_30 : decode cX2_windowIsOlderThan 30 = .ok (.getfield 97, 3) := by decide +kernel
theorem dX2_windowIsOlderThan_33 : decode cX2_windowIsOlderThan 33 = .ok (.invokestatic 100, 3) := by decide +kernel
theorem dX2_windowIsOlderThan_36 : decode cX2_windowIsOlderThan 36 = .ok (.ifCond .eq 7, 3) := by decide +kernel
theorem dX2_windowIsOlderThan_39 : decode cX2_windowIsOlderThan 39 = .ok (.iconst 1, 1) := by decide +kernel
theorem dX2_windowIsOlderThan_40 : decode cX2_windowIsOlderThan 40 = .ok (.goto 4, 3) := by decide +kernel
theorem dX2_windowIsOlderThan_43 : decode cX2_windowIsOlderThan 43 = .ok (.iconst 0, 1) := by decide +kernel
theorem dX2_windowIsOlderThan_44 : decode cX2_windowIsOlderThan 44 = .ok (.ireturn, 1) := by decide +kernel
theorem dX5_takeWindow_0 : decode cX5_takeWindow 0 = .ok (.aload_n 0, 1) := by decide +kernel
theorem dX5_takeWindow_1 : decode cX5_takeWindow 1 = .ok (.getfield 49, 3) := by decide +kernel
theorem dX5_takeWindow_4 : decode cX5_takeWindow 4 = .ok (.getfield 223, 3) := by decide +kernel
theorem dX5_takeWindow_7 : decode cX5_takeWindow 7 = .ok (.aload_n 0, 1) := by decide +kernel
theorem dX5_takeWindow_8 : decode cX5_takeWindow 8 = .ok (.getfield 21, 3) := by decide +kernel
theorem dX5_takeWindow_11 : decode cX5_takeWindow 11 = .ok (.getfield 259, 3) := by decide +kernel
theorem dX5_takeWindow_14 : decode cX5_takeWindow 14 = .ok (.invokestatic 408, 3) := by decide +kernel
theorem dX5_takeWindow_17 : decode cX5_takeWindow 17 = .ok (.ifCond .ne 17, 3) := by decide +kernel
theorem dX5_takeWindow_20 : decode cX5_takeWindow 20 = .ok (.aload_n 0, 1) := by decide +kernel
theorem dX5_takeWindow_21 : decode cX5_takeWindow 21 = .ok (.getfield 21, 3) := by decide +kernel
theorem dX5_takeWindow_24 : decode cX5_takeWindow 24 = .ok (.aload_n 0, 1) := by decide +kernel
theorem dX5_takeWindow_25 : decode cX5_takeWindow 25 = .ok (.getfield 49, 3) := by decide +kernel
theorem dX5_takeWindow_28 : decode cX5_takeWindow 28 = .ok (.invokevirtual 429, 3) := by decide +kernel
theorem dX5_takeWindow_31 : decode cX5_takeWindow 31 = .ok (.ifCond .ne 4, 3) := by decide +kernel
theorem dX5_takeWindow_34 : decode cX5_takeWindow 34 = .ok (.return_, 1) := by decide +kernel
theorem dX5_takeWindow_35 : decode cX5_takeWindow 35 = .ok (.aload_n 0, 1) := by decide +kernel
theorem dX5_takeWindow_36 : decode cX5_takeWindow 36 = .ok (.getfield 21, 3) := by decide +kernel
theorem dX5_takeWindow_39 : decode cX5_takeWindow 39 = .ok (.getfield 262, 3) := by decide +kernel
theorem dX5_takeWindow_42 : decode cX5_takeWindow 42 = .ok (.ifCond .ne 17, 3) := by decide +kernel
theorem dX5_takeWindow_45 : decode cX5_takeWindow 45 = .ok (.aload_n 0, 1) := by decide +kernel
theorem dX5_takeWindow_46 : decode cX5_takeWindow 46 = .ok (.getfield 49, 3) := by decide +kernel
theorem dX5_takeWindow_49 : decode cX5_takeWindow 49 = .ok (.getfield 226, 3) := by decide +kernel
theorem dX5_takeWindow_52 : decode cX5_takeWindow 52 = .ok (.ifCond .eq 7, 3) := by decide +kernel
theorem dX5_takeWindow_55 : decode cX5_takeWindow 55 = .ok (.iconst 1, 1) := by decide +kernel
theorem dX5_takeWindow_56 : decode cX5_takeWindow 56 = .ok (.goto 4, 3) := by decide +kernel
theorem dX5_takeWindow_59 : decode cX5_takeWindow 59 = .ok (.iconst 0, 1) := by decide +kernel
theorem dX5_takeWindow_60 : decode cX5_takeWindow 60 = .ok (.istore_n 1, 1) := by decide +kernel
theorem dX5_takeWindow_61 : decode cX5_takeWindow 61 = .ok (.aload_n 0, 1) := by decide +kernel
theorem dX5_takeWindow_62 : decode cX5_takeWindow 62 = .ok (.getfield 21, 3) := by decide +kernel
theorem dX5_takeWindow_65 : decode cX5_takeWindow 65 = .ok (.aload_n 0, 1) := by decide +kernel
theorem dX5_takeWindow_66 : decode cX5_takeWindow 66 = .ok (.getfield 49, 3) := by decide +kernel
theorem dX5_takeWindow_69 : decode cX5_takeWindow 69 = .ok (.getfield 226, 3) := by decide +kernel
theorem dX5_takeWindow_72 : decode cX5_takeWindow 72 = .ok (.aload_n 0, 1) := by decide +kernel
theorem dX5_takeWindow_73 : decode cX5_takeWindow 73 = .ok (.getfield 49, 3) := by decide +kernel
theorem dX5_takeWindow_76 : decode cX5_takeWindow 76 = .ok (.getfield 220, 3) := by decide +kernel
theorem dX5_takeWindow_79 : decode cX5_takeWindow 79 = .ok (.aload_n 0, 1) := by decide +kernel
theorem dX5_takeWindow_80 : decode cX5_takeWindow 80 = .ok (.getfield 49, 3) := by decide +kernel
theorem dX5_takeWindow_83 : decode cX5_takeWindow 83 = .ok (.getfield 223, 3) := by decide +kernel
theorem dX5_takeWindow_86 : decode cX5_takeWindow 86 = .ok (.invokevirtual 405, 3) := by decide +kernel
theorem dX5_takeWindow_89 : decode cX5_takeWindow 89 = .ok (.iload_n 1, 1) := by decide +kernel
theorem dX5_takeWindow_90 : decode cX5_takeWindow 90 = .ok (.ifCond .eq 29, 3) := by decide +kernel
theorem dX5_takeWindow_93 : decode cX5_takeWindow 93 = .ok (.aload_n 0, 1) := by decide +kernel
theorem dX5_takeWindow_94 : decode cX5_takeWindow 94 = .ok (.getfield 42, 3) := by decide +kernel
theorem dX5_takeWindow_97 : decode cX5_takeWindow 97 = .ok (.iconst 0, 1) := by decide +kernel
theorem dX5_takeWindow_98 : decode cX5_takeWindow 98 = .ok (.putfield 200, 3) := by decide +kernel
theorem dX5_takeWindow_101 : decode cX5_takeWindow 101 = .ok (.aload_n 0, 1) := by decide +kernel
theorem dX5_takeWindow_102 : decode cX5_takeWindow 102 = .ok (.getfield 21, 3) := by decide +kernel
theorem dX5_takeWindow_105 : decode cX5_takeWindow 105 = .ok (.invokevirtual 317, 3) := by decide +kernel
theorem dX5_takeWindow_108 : decode cX5_takeWindow 108 = .ok (.ifCond .ne 11, 3) := by decide +kernel
theorem dX5_takeWindow_111 : decode cX5_takeWindow 111 = .ok (.aload_n 0, 1) := by decide +kernel
theorem dX5_takeWindow_112 : decode cX5_takeWindow 112 = .ok (.getfield 35, 3) := by decide +kernel
theorem dX5_takeWindow_115 : decode cX5_takeWindow 115 = .ok (.iconst 0, 1) := by decide +kernel
theorem dX5_takeWindow_116 : decode cX5_takeWindow 116 = .ok (.putfield 155, 3) := by decide +kernel
theorem dX5_takeWindow_119 : decode cX5_takeWindow 119 = .ok (.iload_n 1, 1) := by decide +kernel
theorem dX5_takeWindow_120 : decode cX5_takeWindow 120 = .ok (.ifCond .ne 13, 3) := by decide +kernel
theorem dX5_takeWindow_123 : decode cX5_takeWindow 123 = .ok (.aload_n 0, 1) := by decide +kernel
theorem dX5_takeWindow_124 : decode cX5_takeWindow 124 = .ok (.getfield 49, 3) := by decide +kernel
theorem dX5_takeWindow_127 : decode cX5_takeWindow 127 = .ok (.getfield 226, 3) := by decide +kernel
theorem dX5_takeWindow_130 : decode cX5_takeWindow 130 = .ok (.ifCond .ne 11, 3) := by decide +kernel
theorem dX5_takeWindow_133 : decode cX5_takeWindow 133 = .ok (.aload_n 0, 1) := by decide +kernel
theorem dX5_takeWindow_134 : decode cX5_takeWindow 134 = .ok (.getfield 35, 3) := by decide +kernel
theorem dX5_takeWindow_137 : decode cX5_takeWindow 137 = .ok (.iconst 0, 1) := by decide +kernel
theorem dX5_takeWindow_138 : decode cX5_takeWindow 138 = .ok (.putfield 270, 3) := by decide +kernel
theorem dX5_takeWindow_141 : decode cX5_takeWindow 141 = .ok (.return_, 1) := by decide +kernel
theorem dX2_lastIsThanked_0 : decode cX2_lastIsThanked 0 = .ok (.aload_n 0, 1) := by decide +kernel
theorem dX2_lastIsThanked_1 : decode cX2_lastIsThanked 1 = .ok (.getfield 41, 3) := by decide +kernel
theorem dX2_lastIsThanked_4 : decode cX2_lastIsThanked 4 = .ok (.ifCond .eq 14, 3) := by decide +kernel
theorem dX2_lastIsThanked_7 : decode cX2_lastIsThanked 7 = .ok (.aload_n 0, 1) := by decide +kernel
theorem dX2_lastIsThanked_8 : decode cX2_lastIsThanked 8 = .ok (.invokevirtual 52, 3) := by decide +kernel
theorem dX2_lastIsThanked_11 : decode cX2_lastIsThanked 11 = .ok (.ifCond .ne 7, 3) := by decide +kernel
theorem dX2_lastIsThanked_14 : decode cX2_lastIsThanked 14 = .ok (.iconst 1, 1) := by decide +kernel
theorem dX2_lastIsThanked_15 : decode cX2_lastIsThanked 15 = .ok (.goto 4, 3) := by decide +kernel
theorem dX2_lastIsThanked_18 : decode cX2_lastIsThanked 18 = .ok (.iconst 0, 1) := by decide +kernel
theorem dX2_lastIsThanked_19 : decode cX2_lastIsThanked 19 = .ok (.ireturn, 1) := by decide +kernel
theorem dX1_store_0 : decode cX1_store 0 = .ok (.aload_n 1, 1) := by decide +kernel
theorem dX1_store_1 : decode cX1_store 1 = .ok (.getfield 48, 3) := by decide +kernel
theorem dX1_store_4 : decode cX1_store 4 = .ok (.aload_n 0, 1) := by decide +kernel
theorem dX1_store_5 : decode cX1_store 5 = .ok (.getfield 25, 3) := by decide +kernel
theorem dX1_store_8 : decode cX1_store 8 = .ok (.isub, 1) := by decide +kernel
theorem dX1_store_9 : decode cX1_store 9 = .ok (.istore_n 2, 1) := by decide +kernel
theorem dX1_store_10 : decode cX1_store 10 = .ok (.iconst 0, 1) := by decide +kernel
theorem dX1_store_11 : decode cX1_store 11 = .ok (.iload_n 2, 1) := by decide +kernel
theorem dX1_store_12 : decode cX1_store 12 = .ok (.ineg, 1) := by decide +kernel
theorem dX1_store_13 : decode cX1_store 13 = .ok (.invokestatic 53, 3) := by decide +kernel
theorem dX1_store_16 : decode cX1_store 16 = .ok (.istore_n 3, 1) := by decide +kernel
theorem dX1_store_17 : decode cX1_store 17 = .ok (.aload_n 1, 1) := by decide +kernel
theorem dX1_store_18 : decode cX1_store 18 = .ok (.getfield 59, 3) := by decide +kernel
theorem dX1_store_21 : decode cX1_store 21 = .ok (.aload_n 0, 1) := by decide +kernel
theorem dX1_store_22 : decode cX1_store 22 = .ok (.invokevirtual 44, 3) := by decide +kernel
theorem dX1_store_25 : decode cX1_store 25 = .ok (.iload_n 2, 1) := by decide +kernel
theorem dX1_store_26 : decode cX1_store 26 = .ok (.isub, 1) := by decide +kernel
theorem dX1_store_27 : decode cX1_store 27 = .ok (.invokestatic 62, 3) := by decide +kernel
theorem dX1_store_30 : decode cX1_store 30 = .ok (.istore 4, 2) := by decide +kernel
theorem dX1_store_32 : decode cX1_store 32 = .ok (.iload_n 3, 1) := by decide +kernel
theorem dX1_store_33 : decode cX1_store 33 = .ok (.istore 5, 2) := by decide +kernel
theorem dX1_store_35 : decode cX1_store 35 = .ok (.iload 5, 2) := by decide +kernel
theorem dX1_store_37 : decode cX1_store 37 = .ok (.iload 4, 2) := by decide +kernel
theorem dX1_store_39 : decode cX1_store 39 = .ok (.if_icmp .ge 51, 3) := by decide +kernel
theorem dX1_store_42 : decode cX1_store 42 = .ok (.aload_n 1, 1) := by decide +kernel
theorem dX1_store_43 : decode cX1_store 43 = .ok (.getfield 48, 3) := by decide +kernel
theorem dX1_store_46 : decode cX1_store 46 = .ok (.iload 5, 2) := by decide +kernel
theorem dX1_store_48 : decode cX1_store 48 = .ok (.iadd, 1) := by decide +kernel
theorem dX1_store_49 : decode cX1_store 49 = .ok (.sipush 2047, 3) := by decide +kernel
theorem dX1_store_52 : decode cX1_store 52 = .ok (.iand, 1) := by decide +kernel
theorem dX1_store_53 : decode cX1_store 53 = .ok (.istore 6, 2) := by decide +kernel
theorem dX1_store_55 : decode cX1_store 55 = .ok (.aload_n 0, 1) := by decide +kernel
theorem dX1_store_56 : decode cX1_store 56 = .ok (.getfield 9, 3) := by decide +kernel
theorem dX1_store_59 : decode cX1_store 59 = .ok (.iload 6, 2) := by decide +kernel
theorem dX1_store_61 : decode cX1_store 61 = .ok (.iaload, 1) := by decide +kernel
theorem dX1_store_62 : decode cX1_store 62 = .ok (.iconst (-1), 1) := by decide +kernel
theorem dX1_store_63 : decode cX1_store 63 = .ok (.if_icmp .ne 21, 3) := by decide +kernel
theorem dX1_store_66 : decode cX1_store 66 = .ok (.aload_n 0, 1) := by decide +kernel
theorem dX1_store_67 : decode cX1_store 67 = .ok (.getfield 9, 3) := by decide +kernel
theorem dX1_store_70 : decode cX1_store 70 = .ok (.iload 6, 2) := by decide +kernel
theorem dX1_store_72 : decode cX1_store 72 = .ok (.aload_n 1, 1) := by decide +kernel
theorem dX1_store_73 : decode cX1_store 73 = .ok (.getfield 65, 3) := by decide +kernel
theorem dX1_store_76 : decode cX1_store 76 = .ok (.iload 5, 2) := by decide +kernel
theorem dX1_store_78 : decode cX1_store 78 = .ok (.baload, 1) := by decide +kernel
theorem dX1_store_79 : decode cX1_store 79 = .ok (.sipush 255, 3) := by decide +kernel
theorem dX1_store_82 : decode cX1_store 82 = .ok (.iand, 1) := by decide +kernel
theorem dX1_store_83 : decode cX1_store 83 = .ok (.iastore, 1) := by decide +kernel
theorem dX1_store_84 : decode cX1_store 84 = .ok (.iinc 5 1, 3) := by decide +kernel
theorem dX1_store_87 : decode cX1_store 87 = .ok (.goto (-52), 3) := by decide +kernel
theorem dX1_store_90 : decode cX1_store 90 = .ok (.return_, 1) := by decide +kernel
theorem dX1_isAtLast_0 : decode cX1_isAtLast 0 = .ok (.aload_n 0, 1) := by decide +kernel
theorem dX1_isAtLast_1 : decode cX1_isAtLast 1 = .ok (.getfield 35, 3) := by decide +kernel
theorem dX1_isAtLast_4 : decode cX1_isAtLast 4 = .ok (.ifCond .eq 18, 3) := by decide +kernel
theorem dX1_isAtLast_7 : decode cX1_isAtLast 7 = .ok (.aload_n 0, 1) := by decide +kernel
theorem dX1_isAtLast_8 : decode cX1_isAtLast 8 = .ok (.getfield 25, 3) := by decide +kernel
theorem dX1_isAtLast_11 : decode cX1_isAtLast 11 = .ok (.aload_n 0, 1) := by decide +kernel
theorem dX1_isAtLast_12 : decode cX1_isAtLast 12 = .ok (.getfield 38, 3) := by decide +kernel
theorem dX1_isAtLast_15 : decode cX1_isAtLast 15 = .ok (.if_icmp .ne 7, 3) := by decide +kernel
theorem dX1_isAtLast_18 : decode cX1_isAtLast 18 = .ok (.iconst 1, 1) := by decide +kernel
theorem dX1_isAtLast_19 : decode cX1_isAtLast 19 = .ok (.goto 4, 3) := by decide +kernel
theorem dX1_isAtLast_22 : decode cX1_isAtLast 22 = .ok (.iconst 0, 1) := by decide +kernel
theorem dX1_isAtLast_23 : decode cX1_isAtLast 23 = .ok (.ireturn, 1) := by decide +kernel
theorem dX1_goOn_0 : decode cX1_goOn 0 = .ok (.aload_n 0, 1) := by decide +kernel
theorem dX1_goOn_1 : decode cX1_goOn 1 = .ok (.getfield 29, 3) := by decide +kernel
theorem dX1_goOn_4 : decode cX1_goOn 4 = .ok (.sipush 2048, 3) := by decide +kernel
theorem dX1_goOn_7 : decode cX1_goOn 7 = .ok (.if_icmp .ge 50, 3) := by decide +kernel
theorem dX1_goOn_10 : decode cX1_goOn 10 = .ok (.aload_n 0, 1) := by decide +kernel
theorem dX1_goOn_11 : decode cX1_goOn 11 = .ok (.invokevirtual 69, 3) := by decide +kernel
theorem dX1_goOn_14 : decode cX1_goOn 14 = .ok (.ifCond .ne 43, 3) := by decide +kernel
theorem dX1_goOn_17 : decode cX1_goOn 17 = .ok (.aload_n 0, 1) := by decide +kernel
theorem dX1_goOn_18 : decode cX1_goOn 18 = .ok (.getfield 9, 3) := by decide +kernel
theorem dX1_goOn_21 : decode cX1_goOn 21 = .ok (.aload_n 0, 1) := by decide +kernel
theorem dX1_goOn_22 : decode cX1_goOn 22 = .ok (.getfield 25, 3) := by decide +kernel
theorem dX1_goOn_25 : decode cX1_goOn 25 = .ok (.sipush 2047, 3) := by decide +kernel
theorem dX1_goOn_28 : decode cX1_goOn 28 = .ok (.iand, 1) := by decide +kernel
theorem dX1_goOn_29 : decode cX1_goOn 29 = .ok (.iaload, 1) := by decide +kernel
theorem dX1_goOn_30 : decode cX1_goOn 30 = .ok (.iconst (-1), 1) := by decide +kernel
theorem dX1_goOn_31 : decode cX1_goOn 31 = .ok (.if_icmp .eq 26, 3) := by decide +kernel
theorem dX1_goOn_34 : decode cX1_goOn 34 = .ok (.aload_n 0, 1) := by decide +kernel
theorem dX1_goOn_35 : decode cX1_goOn 35 = .ok (.dup, 1) := by decide +kernel
theorem dX1_goOn_36 : decode cX1_goOn 36 = .ok (.getfield 25, 3) := by decide +kernel
theorem dX1_goOn_39 : decode cX1_goOn 39 = .ok (.iconst 1, 1) := by decide +kernel
theorem dX1_goOn_40 : decode cX1_goOn 40 = .ok (.iadd, 1) := by decide +kernel
theorem dX1_goOn_41 : decode cX1_goOn 41 = .ok (.putfield 25, 3) := by decide +kernel
theorem dX1_goOn_44 : decode cX1_goOn 44 = .ok (.aload_n 0, 1) := by decide +kernel
theorem dX1_goOn_45 : decode cX1_goOn 45 = .ok (.dup, 1) := by decide +kernel
theorem dX1_goOn_46 : decode cX1_goOn 46 = .ok (.getfield 29, 3) := by decide +kernel
theorem dX1_goOn_49 : decode cX1_goOn 49 = .ok (.iconst 1, 1) := by decide +kernel
theorem dX1_goOn_50 : decode cX1_goOn 50 = .ok (.iadd, 1) := by decide +kernel
theorem dX1_goOn_51 : decode cX1_goOn 51 = .ok (.putfield 29, 3) := by decide +kernel
theorem dX1_goOn_54 : decode cX1_goOn 54 = .ok (.goto (-54), 3) := by decide +kernel
theorem dX1_goOn_57 : decode cX1_goOn 57 = .ok (.aload_n 0, 1) := by decide +kernel
theorem dX1_goOn_58 : decode cX1_goOn 58 = .ok (.invokevirtual 69, 3) := by decide +kernel
theorem dX1_goOn_61 : decode cX1_goOn 61 = .ok (.ifCond .eq 18, 3) := by decide +kernel
theorem dX1_goOn_64 : decode cX1_goOn 64 = .ok (.aload_n 0, 1) := by decide +kernel
theorem dX1_goOn_65 : decode cX1_goOn 65 = .ok (.dup, 1) := by decide +kernel
theorem dX1_goOn_66 : decode cX1_goOn 66 = .ok (.getfield 25, 3) := by decide +kernel
theorem dX1_goOn_69 : decode cX1_goOn 69 = .ok (.iconst 1, 1) := by decide +kernel
theorem dX1_goOn_70 : decode cX1_goOn 70 = .ok (.iadd, 1) := by decide +kernel
theorem dX1_goOn_71 : decode cX1_goOn 71 = .ok (.putfield 25, 3) := by decide +kernel
theorem dX1_goOn_74 : decode cX1_goOn 74 = .ok (.aload_n 0, 1) := by decide +kernel
theorem dX1_goOn_75 : decode cX1_goOn 75 = .ok (.iconst 1, 1) := by decide +kernel
theorem dX1_goOn_76 : decode cX1_goOn 76 = .ok (.putfield 41, 3) := by decide +kernel
theorem dX1_goOn_79 : decode cX1_goOn 79 = .ok (.return_, 1) := by decide +kernel
theorem dX5_peerLeaves_0 : decode cX5_peerLeaves 0 = .ok (.aload_n 0, 1) := by decide +kernel
theorem dX5_peerLeaves_1 : decode cX5_peerLeaves 1 = .ok (.getfield 60, 3) := by decide +kernel
theorem dX5_peerLeaves_4 : decode cX5_peerLeaves 4 = .ok (.iconst 4, 1) := by decide +kernel
theorem dX5_peerLeaves_5 : decode cX5_peerLeaves 5 = .ok (.if_icmp .ne 12, 3) := by decide +kernel
theorem dX5_peerLeaves_8 : decode cX5_peerLeaves 8 = .ok (.aload_n 0, 1) := by decide +kernel
theorem dX5_peerLeaves_9 : decode cX5_peerLeaves 9 = .ok (.bipush 7, 2) := by decide +kernel
theorem dX5_peerLeaves_11 : decode cX5_peerLeaves 11 = .ok (.putfield 60, 3) := by decide +kernel
end
section
/-! written by program (wip/gen) -/
theorem dX5_peerLeaves_14 : decode cX5_peerLeaves 14 = .ok (.goto 26, 3) := by decide +kernel
theorem dX5_peerLeaves_17 : decode cX5_peerLeaves 17 = .ok (.aload_n 0, 1) := by decide +kernel
theorem dX5_peerLeaves_18 : decode cX5_peerLeaves 18 = .ok (.getfield 60, 3) := by decide +kernel
theorem dX5_peerLeaves_21 : decode cX5_peerLeaves 21 = .ok (.iconst 5, 1) := by decide +kernel
theorem dX5_peerLeaves_22 : decode cX5_peerLeaves 22 = .ok (.if_icmp .ne 12, 3) := by decide +kernel
theorem dX5_peerLeaves_25 : decode cX5_peerLeaves 25 = .ok (.aload_n 0, 1) := by decide +kernel
theorem dX5_peerLeaves_26 : decode cX5_peerLeaves 26 = .ok (.bipush 8, 2) := by decide +kernel
theorem dX5_peerLeaves_28 : decode cX5_peerLeaves 28 = .ok (.putfield 60, 3) := by decide +kernel
theorem dX5_peerLeaves_31 : decode cX5_peerLeaves 31 = .ok (.goto 9, 3) := by decide +kernel
theorem dX5_peerLeaves_34 : decode cX5_peerLeaves 34 = .ok (.aload_n 0, 1) := by decide +kernel
theorem dX5_peerLeaves_35 : decode cX5_peerLeaves 35 = .ok (.bipush 10, 2) := by decide +kernel
theorem dX5_peerLeaves_37 : decode cX5_peerLeaves 37 = .ok (.invokevirtual 132, 3) := by decide +kernel
theorem dX5_peerLeaves_40 : decode cX5_peerLeaves 40 = .ok (.return_, 1) := by decide +kernel
theorem dX1_noteLast_0 : decode cX1_noteLast 0 = .ok (.iload_n 1, 1) := by decide +kernel
theorem dX1_noteLast_1 : decode cX1_noteLast 1 = .ok (.aload_n 0, 1) := by decide +kernel
theorem dX1_noteLast_2 : decode cX1_noteLast 2 = .ok (.getfield 25, 3) := by decide +kernel
theorem dX1_noteLast_5 : decode cX1_noteLast 5 = .ok (.isub, 1) := by decide +kernel
theorem dX1_noteLast_6 : decode cX1_noteLast 6 = .ok (.istore_n 2, 1) := by decide +kernel
theorem dX1_noteLast_7 : decode cX1_noteLast 7 = .ok (.aload_n 0, 1) := by decide +kernel
theorem dX1_noteLast_8 : decode cX1_noteLast 8 = .ok (.getfield 35, 3) := by decide +kernel
theorem dX1_noteLast_11 : decode cX1_noteLast 11 = .ok (.ifCond .ne 25, 3) := by decide +kernel
theorem dX1_noteLast_14 : decode cX1_noteLast 14 = .ok (.iload_n 2, 1) := by decide +kernel
theorem dX1_noteLast_15 : decode cX1_noteLast 15 = .ok (.ifCond .lt 21, 3) := by decide +kernel
theorem dX1_noteLast_18 : decode cX1_noteLast 18 = .ok (.iload_n 2, 1) := by decide +kernel
theorem dX1_noteLast_19 : decode cX1_noteLast 19 = .ok (.aload_n 0, 1) := by decide +kernel
theorem dX1_noteLast_20 : decode cX1_noteLast 20 = .ok (.invokevirtual 44, 3) := by decide +kernel
theorem dX1_noteLast_23 : decode cX1_noteLast 23 = .ok (.if_icmp .ge 13, 3) := by decide +kernel
theorem dX1_noteLast_26 : decode cX1_noteLast 26 = .ok (.aload_n 0, 1) := by decide +kernel
theorem dX1_noteLast_27 : decode cX1_noteLast 27 = .ok (.iconst 1, 1) := by decide +kernel
theorem dX1_noteLast_28 : decode cX1_noteLast 28 = .ok (.putfield 35, 3) := by decide +kernel
theorem dX1_noteLast_31 : decode cX1_noteLast 31 = .ok (.aload_n 0, 1) := by decide +kernel
theorem dX1_noteLast_32 : decode cX1_noteLast 32 = .ok (.iload_n 1, 1) := by decide +kernel
theorem dX1_noteLast_33 : decode cX1_noteLast 33 = .ok (.putfield 38, 3) := by decide +kernel
theorem dX1_noteLast_36 : decode cX1_noteLast 36 = .ok (.return_, 1) := by decide +kernel
theorem dX5_takeBytes_0 : decode cX5_takeBytes 0 = .ok (.aload_n 0, 1) := by decide +kernel
theorem dX5_takeBytes_1 : decode cX5_takeBytes 1 = .ok (.getfield 49, 3) := by decide +kernel
theorem dX5_takeBytes_4 : decode cX5_takeBytes 4 = .ok (.iconst 2, 1) := by decide +kernel
theorem dX5_takeBytes_5 : decode cX5_takeBytes 5 = .ok (.invokevirtual 338, 3) := by decide +kernel
theorem dX5_takeBytes_8 : decode cX5_takeBytes 8 = .ok (.istore_n 1, 1) := by decide +kernel
theorem dX5_takeBytes_9 : decode cX5_takeBytes 9 = .ok (.aload_n 0, 1) := by decide +kernel
theorem dX5_takeBytes_10 : decode cX5_takeBytes 10 = .ok (.invokevirtual 308, 3) := by decide +kernel
theorem dX5_takeBytes_13 : decode cX5_takeBytes 13 = .ok (.ifCond .eq 61, 3) := by decide +kernel
theorem dX5_takeBytes_16 : decode cX5_takeBytes 16 = .ok (.aload_n 0, 1) := by decide +kernel
theorem dX5_takeBytes_17 : decode cX5_takeBytes 17 = .ok (.getfield 28, 3) := by decide +kernel
theorem dX5_takeBytes_20 : decode cX5_takeBytes 20 = .ok (.aload_n 0, 1) := by decide +kernel
theorem dX5_takeBytes_21 : decode cX5_takeBytes 21 = .ok (.getfield 49, 3) := by decide +kernel
theorem dX5_takeBytes_24 : decode cX5_takeBytes 24 = .ok (.invokevirtual 433, 3) := by decide +kernel
theorem dX5_takeBytes_27 : decode cX5_takeBytes 27 = .ok (.iload_n 1, 1) := by decide +kernel
theorem dX5_takeBytes_28 : decode cX5_takeBytes 28 = .ok (.ifCond .eq 25, 3) := by decide +kernel
theorem dX5_takeBytes_31 : decode cX5_takeBytes 31 = .ok (.aload_n 0, 1) := by decide +kernel
theorem dX5_takeBytes_32 : decode cX5_takeBytes 32 = .ok (.getfield 28, 3) := by decide +kernel
theorem dX5_takeBytes_35 : decode cX5_takeBytes 35 = .ok (.aload_n 0, 1) := by decide +kernel
theorem dX5_takeBytes_36 : decode cX5_takeBytes 36 = .ok (.getfield 49, 3) := by decide +kernel
theorem dX5_takeBytes_39 : decode cX5_takeBytes 39 = .ok (.getfield 220, 3) := by decide +kernel
theorem dX5_takeBytes_42 : decode cX5_takeBytes 42 = .ok (.aload_n 0, 1) := by decide +kernel
theorem dX5_takeBytes_43 : decode cX5_takeBytes 43 = .ok (.getfield 49, 3) := by decide +kernel
theorem dX5_takeBytes_46 : decode cX5_takeBytes 46 = .ok (.getfield 230, 3) := by decide +kernel
theorem dX5_takeBytes_49 : decode cX5_takeBytes 49 = .ok (.iadd, 1) := by decide +kernel
theorem dX5_takeBytes_50 : decode cX5_takeBytes 50 = .ok (.invokevirtual 437, 3) := by decide +kernel
theorem dX5_takeBytes_53 : decode cX5_takeBytes 53 = .ok (.aload_n 0, 1) := by decide +kernel
theorem dX5_takeBytes_54 : decode cX5_takeBytes 54 = .ok (.getfield 28, 3) := by decide +kernel
theorem dX5_takeBytes_57 : decode cX5_takeBytes 57 = .ok (.invokevirtual 440, 3) := by decide +kernel
theorem dX5_takeBytes_60 : decode cX5_takeBytes 60 = .ok (.aload_n 0, 1) := by decide +kernel
theorem dX5_takeBytes_61 : decode cX5_takeBytes 61 = .ok (.getfield 28, 3) := by decide +kernel
theorem dX5_takeBytes_64 : decode cX5_takeBytes 64 = .ok (.getfield 125, 3) := by decide +kernel
theorem dX5_takeBytes_67 : decode cX5_takeBytes 67 = .ok (.ifCond .eq 7, 3) := by decide +kernel
theorem dX5_takeBytes_70 : decode cX5_takeBytes 70 = .ok (.aload_n 0, 1) := by decide +kernel
theorem dX5_takeBytes_71 : decode cX5_takeBytes 71 = .ok (.invokevirtual 443, 3) := by decide +kernel
theorem dX5_takeBytes_74 : decode cX5_takeBytes 74 = .ok (.iload_n 1, 1) := by decide +kernel
theorem dX5_takeBytes_75 : decode cX5_takeBytes 75 = .ok (.ifCond .ne 13, 3) := by decide +kernel
theorem dX5_takeBytes_78 : decode cX5_takeBytes 78 = .ok (.aload_n 0, 1) := by decide +kernel
theorem dX5_takeBytes_79 : decode cX5_takeBytes 79 = .ok (.getfield 49, 3) := by decide +kernel
theorem dX5_takeBytes_82 : decode cX5_takeBytes 82 = .ok (.getfield 230, 3) := by decide +kernel
theorem dX5_takeBytes_85 : decode cX5_takeBytes 85 = .ok (.ifCond .le 11, 3) := by decide +kernel
theorem dX5_takeBytes_88 : decode cX5_takeBytes 88 = .ok (.aload_n 0, 1) := by decide +kernel
theorem dX5_takeBytes_89 : decode cX5_takeBytes 89 = .ok (.getfield 42, 3) := by decide +kernel
theorem dX5_takeBytes_92 : decode cX5_takeBytes 92 = .ok (.iconst 1, 1) := by decide +kernel
theorem dX5_takeBytes_93 : decode cX5_takeBytes 93 = .ok (.putfield 206, 3) := by decide +kernel
theorem dX5_takeBytes_96 : decode cX5_takeBytes 96 = .ok (.return_, 1) := by decide +kernel
theorem dX5_leave_0 : decode cX5_leave 0 = .ok (.aload_n 0, 1) := by decide +kernel
theorem dX5_leave_1 : decode cX5_leave 1 = .ok (.getfield 60, 3) := by decide +kernel
theorem dX5_leave_4 : decode cX5_leave 4 = .ok (.iconst 5, 1) := by decide +kernel
theorem dX5_leave_5 : decode cX5_leave 5 = .ok (.if_icmp .ne 12, 3) := by decide +kernel
theorem dX5_leave_8 : decode cX5_leave 8 = .ok (.aload_n 0, 1) := by decide +kernel
theorem dX5_leave_9 : decode cX5_leave 9 = .ok (.bipush 6, 2) := by decide +kernel
theorem dX5_leave_11 : decode cX5_leave 11 = .ok (.putfield 60, 3) := by decide +kernel
theorem dX5_leave_14 : decode cX5_leave 14 = .ok (.goto 35, 3) := by decide +kernel
theorem dX5_leave_17 : decode cX5_leave 17 = .ok (.aload_n 0, 1) := by decide +kernel
theorem dX5_leave_18 : decode cX5_leave 18 = .ok (.getfield 60, 3) := by decide +kernel
theorem dX5_leave_21 : decode cX5_leave 21 = .ok (.bipush 8, 2) := by decide +kernel
theorem dX5_leave_23 : decode cX5_leave 23 = .ok (.if_icmp .ne 12, 3) := by decide +kernel
theorem dX5_leave_26 : decode cX5_leave 26 = .ok (.aload_n 0, 1) := by decide +kernel
theorem dX5_leave_27 : decode cX5_leave 27 = .ok (.bipush 10, 2) := by decide +kernel
theorem dX5_leave_29 : decode cX5_leave 29 = .ok (.invokevirtual 132, 3) := by decide +kernel
theorem dX5_leave_32 : decode cX5_leave 32 = .ok (.goto 17, 3) := by decide +kernel
theorem dX5_leave_35 : decode cX5_leave 35 = .ok (.aload_n 0, 1) := by decide +kernel
theorem dX5_leave_36 : decode cX5_leave 36 = .ok (.getfield 60, 3) := by decide +kernel
theorem dX5_leave_39 : decode cX5_leave 39 = .ok (.bipush 9, 2) := by decide +kernel
theorem dX5_leave_41 : decode cX5_leave 41 = .ok (.if_icmp .ne 8, 3) := by decide +kernel
theorem dX5_leave_44 : decode cX5_leave 44 = .ok (.aload_n 0, 1) := by decide +kernel
theorem dX5_leave_45 : decode cX5_leave 45 = .ok (.iconst 0, 1) := by decide +kernel
theorem dX5_leave_46 : decode cX5_leave 46 = .ok (.invokevirtual 132, 3) := by decide +kernel
theorem dX5_leave_49 : decode cX5_leave 49 = .ok (.return_, 1) := by decide +kernel
theorem dX2_thank_0 : decode cX2_thank 0 = .ok (.aload_n 0, 1) := by decide +kernel
theorem dX2_thank_1 : decode cX2_thank 1 = .ok (.getfield 25, 3) := by decide +kernel
theorem dX2_thank_4 : decode cX2_thank 4 = .ok (.iload_n 1, 1) := by decide +kernel
theorem dX2_thank_5 : decode cX2_thank 5 = .ok (.aload_n 0, 1) := by decide +kernel
theorem dX2_thank_6 : decode cX2_thank 6 = .ok (.getfield 31, 3) := by decide +kernel
theorem dX2_thank_9 : decode cX2_thank 9 = .ok (.isub, 1) := by decide +kernel
theorem dX2_thank_10 : decode cX2_thank 10 = .ok (.invokestatic 62, 3) := by decide +kernel
theorem dX2_thank_13 : decode cX2_thank 13 = .ok (.istore_n 2, 1) := by decide +kernel
theorem dX2_thank_14 : decode cX2_thank 14 = .ok (.aload_n 0, 1) := by decide +kernel
theorem dX2_thank_15 : decode cX2_thank 15 = .ok (.aload_n 0, 1) := by decide +kernel
theorem dX2_thank_16 : decode cX2_thank 16 = .ok (.getfield 19, 3) := by decide +kernel
theorem dX2_thank_19 : decode cX2_thank 19 = .ok (.iload_n 2, 1) := by decide +kernel
theorem dX2_thank_20 : decode cX2_thank 20 = .ok (.iadd, 1) := by decide +kernel
theorem dX2_thank_21 : decode cX2_thank 21 = .ok (.sipush 2047, 3) := by decide +kernel
theorem dX2_thank_24 : decode cX2_thank 24 = .ok (.iand, 1) := by decide +kernel
theorem dX2_thank_25 : decode cX2_thank 25 = .ok (.putfield 19, 3) := by decide +kernel
theorem dX2_thank_28 : decode cX2_thank 28 = .ok (.aload_n 0, 1) := by decide +kernel
theorem dX2_thank_29 : decode cX2_thank 29 = .ok (.dup, 1) := by decide +kernel
theorem dX2_thank_30 : decode cX2_thank 30 = .ok (.getfield 22, 3) := by decide +kernel
theorem dX2_thank_33 : decode cX2_thank 33 = .ok (.iload_n 2, 1) := by decide +kernel
theorem dX2_thank_34 : decode cX2_thank 34 = .ok (.isub, 1) := by decide +kernel
theorem dX2_thank_35 : decode cX2_thank 35 = .ok (.putfield 22, 3) := by decide +kernel
theorem dX2_thank_38 : decode cX2_thank 38 = .ok (.aload_n 0, 1) := by decide +kernel
theorem dX2_thank_39 : decode cX2_thank 39 = .ok (.dup, 1) := by decide +kernel
theorem dX2_thank_40 : decode cX2_thank 40 = .ok (.getfield 25, 3) := by decide +kernel
theorem dX2_thank_43 : decode cX2_thank 43 = .ok (.iload_n 2, 1) := by decide +kernel
theorem dX2_thank_44 : decode cX2_thank 44 = .ok (.isub, 1) := by decide +kernel
theorem dX2_thank_45 : decode cX2_thank 45 = .ok (.putfield 25, 3) := by decide +kernel
theorem dX2_thank_48 : decode cX2_thank 48 = .ok (.aload_n 0, 1) := by decide +kernel
theorem dX2_thank_49 : decode cX2_thank 49 = .ok (.iload_n 1, 1) := by decide +kernel
theorem dX2_thank_50 : decode cX2_thank 50 = .ok (.putfield 31, 3) := by decide +kernel
theorem dX2_thank_53 : decode cX2_thank 53 = .ok (.return_, 1) := by decide +kernel
theorem dX4_learn_0 : decode cX4_learn 0 = .ok (.aload_n 0, 1) := by decide +kernel
theorem dX4_learn_1 : decode cX4_learn 1 = .ok (.getfield 23, 3) := by decide +kernel
theorem dX4_learn_4 : decode cX4_learn 4 = .ok (.ifCond .eq 46, 3) := by decide +kernel
theorem dX4_learn_7 : decode cX4_learn 7 = .ok (.iload_n 1, 1) := by decide +kernel
theorem dX4_learn_8 : decode cX4_learn 8 = .ok (.aload_n 0, 1) := by decide +kernel
theorem dX4_learn_9 : decode cX4_learn 9 = .ok (.getfield 26, 3) := by decide +kernel
theorem dX4_learn_12 : decode cX4_learn 12 = .ok (.bipush 8, 2) := by decide +kernel
theorem dX4_learn_14 : decode cX4_learn 14 = .ok (.idiv, 1) := by decide +kernel
theorem dX4_learn_15 : decode cX4_learn 15 = .ok (.isub, 1) := by decide +kernel
theorem dX4_learn_16 : decode cX4_learn 16 = .ok (.istore_n 2, 1) := by decide +kernel
theorem dX4_learn_17 : decode cX4_learn 17 = .ok (.aload_n 0, 1) := by decide +kernel
theorem dX4_learn_18 : decode cX4_learn 18 = .ok (.dup, 1) := by decide +kernel
theorem dX4_learn_19 : decode cX4_learn 19 = .ok (.getfield 26, 3) := by decide +kernel
theorem dX4_learn_22 : decode cX4_learn 22 = .ok (.iload_n 2, 1) := by decide +kernel
theorem dX4_learn_23 : decode cX4_learn 23 = .ok (.iadd, 1) := by decide +kernel
theorem dX4_learn_24 : decode cX4_learn 24 = .ok (.putfield 26, 3) := by decide +kernel
theorem dX4_learn_27 : decode cX4_learn 27 = .ok (.aload_n 0, 1) := by decide +kernel
theorem dX4_learn_28 : decode cX4_learn 28 = .ok (.dup, 1) := by decide +kernel
theorem dX4_learn_29 : decode cX4_learn 29 = .ok (.getfield 29, 3) := by decide +kernel
theorem dX4_learn_32 : decode cX4_learn 32 = .ok (.iload_n 2, 1) := by decide +kernel
theorem dX4_learn_33 : decode cX4_learn 33 = .ok (.invokestatic 63, 3) := by decide +kernel
theorem dX4_learn_36 : decode cX4_learn 36 = .ok (.aload_n 0, 1) := by decide +kernel
theorem dX4_learn_37 : decode cX4_learn 37 = .ok (.getfield 29, 3) := by decide +kernel
theorem dX4_learn_40 : decode cX4_learn 40 = .ok (.iconst 4, 1) := by decide +kernel
theorem dX4_learn_41 : decode cX4_learn 41 = .ok (.idiv, 1) := by decide +kernel
theorem dX4_learn_42 : decode cX4_learn 42 = .ok (.isub, 1) := by decide +kernel
theorem dX4_learn_43 : decode cX4_learn 43 = .ok (.iadd, 1) := by decide +kernel
theorem dX4_learn_44 : decode cX4_learn 44 = .ok (.putfield 29, 3) := by decide +kernel
theorem dX4_learn_47 : decode cX4_learn 47 = .ok (.goto 23, 3) := by decide +kernel
theorem dX4_learn_50 : decode cX4_learn 50 = .ok (.aload_n 0, 1) := by decide +kernel
theorem dX4_learn_51 : decode cX4_learn 51 = .ok (.iconst 1, 1) := by decide +kernel
theorem dX4_learn_52 : decode cX4_learn 52 = .ok (.putfield 23, 3) := by decide +kernel
theorem dX4_learn_55 : decode cX4_learn 55 = .ok (.aload_n 0, 1) := by decide +kernel
theorem dX4_learn_56 : decode cX4_learn 56 = .ok (.bipush 8, 2) := by decide +kernel
theorem dX4_learn_58 : decode cX4_learn 58 = .ok (.iload_n 1, 1) := by decide +kernel
theorem dX4_learn_59 : decode cX4_learn 59 = .ok (.imul, 1) := by decide +kernel
theorem dX4_learn_60 : decode cX4_learn 60 = .ok (.putfield 26, 3) := by decide +kernel
theorem dX4_learn_63 : decode cX4_learn 63 = .ok (.aload_n 0, 1) := by decide +kernel
theorem dX4_learn_64 : decode cX4_learn 64 = .ok (.iconst 2, 1) := by decide +kernel
theorem dX4_learn_65 : decode cX4_learn 65 = .ok (.iload_n 1, 1) := by decide +kernel
theorem dX4_learn_66 : decode cX4_learn 66 = .ok (.imul, 1) := by decide +kernel
theorem dX4_learn_67 : decode cX4_learn 67 = .ok (.putfield 29, 3) := by decide +kernel
theorem dX4_learn_70 : decode cX4_learn 70 = .ok (.aload_n 0, 1) := by decide +kernel
theorem dX4_learn_71 : decode cX4_learn 71 = .ok (.getfield 26, 3) := by decide +kernel
theorem dX4_learn_74 : decode cX4_learn 74 = .ok (.bipush 8, 2) := by decide +kernel
theorem dX4_learn_76 : decode cX4_learn 76 = .ok (.idiv, 1) := by decide +kernel
theorem dX4_learn_77 : decode cX4_learn 77 = .ok (.aload_n 0, 1) := by decide +kernel
theorem dX4_learn_78 : decode cX4_learn 78 = .ok (.getfield 29, 3) := by decide +kernel
theorem dX4_learn_81 : decode cX4_learn 81 = .ok (.iconst 1, 1) := by decide +kernel
theorem dX4_learn_82 : decode cX4_learn 82 = .ok (.invokestatic 67, 3) := by decide +kernel
theorem dX4_learn_85 : decode cX4_learn 85 = .ok (.iadd, 1) := by decide +kernel
theorem dX4_learn_86 : decode cX4_learn 86 = .ok (.istore_n 2, 1) := by decide +kernel
theorem dX4_learn_87 : decode cX4_learn 87 = .ok (.aload_n 0, 1) := by decide +kernel
theorem dX4_learn_88 : decode cX4_learn 88 = .ok (.bipush 20, 2) := by decide +kernel
theorem dX4_learn_90 : decode cX4_learn 90 = .ok (.iload_n 2, 1) := by decide +kernel
theorem dX4_learn_91 : decode cX4_learn 91 = .ok (.sipush 1200, 3) := by decide +kernel
theorem dX4_learn_94 : decode cX4_learn 94 = .ok (.invokestatic 47, 3) := by decide +kernel
theorem dX4_learn_97 : decode cX4_learn 97 = .ok (.invokestatic 67, 3) := by decide +kernel
theorem dX4_learn_100 : decode cX4_learn 100 = .ok (.putfield 9, 3) := by decide +kernel
theorem dX4_learn_103 : decode cX4_learn 103 = .ok (.return_, 1) := by decide +kernel
theorem dX4_endMeasure_0 : decode cX4_endMeasure 0 = .ok (.aload_n 0, 1) := by decide +kernel
theorem dX4_endMeasure_1 : decode cX4_endMeasure 1 = .ok (.getfield 32, 3) := by decide +kernel
theorem dX4_endMeasure_4 : decode cX4_endMeasure 4 = .ok (.ifCond .eq 32, 3) := by decide +kernel
theorem dX4_endMeasure_7 : decode cX4_endMeasure 7 = .ok (.aload_n 0, 1) := by decide +kernel
theorem dX4_endMeasure_8 : decode cX4_endMeasure 8 = .ok (.getfield 35, 3) := by decide +kernel
theorem dX4_endMeasure_11 : decode cX4_endMeasure 11 = .ok (.iload_n 1, 1) := by decide +kernel
theorem dX4_endMeasure_12 : decode cX4_endMeasure 12 = .ok (.invokestatic 53, 3) := by decide +kernel
theorem dX4_endMeasure_15 : decode cX4_endMeasure 15 = .ok (.ifCond .eq 21, 3) := by decide +kernel
theorem dX4_endMeasure_18 : decode cX4_endMeasure 18 = .ok (.aload_n 0, 1) := by decide +kernel
theorem dX4_endMeasure_19 : decode cX4_endMeasure 19 = .ok (.iconst 0, 1) := by decide +kernel
theorem dX4_endMeasure_20 : decode cX4_endMeasure 20 = .ok (.putfield 32, 3) := by decide +kernel
theorem dX4_endMeasure_23 : decode cX4_endMeasure 23 = .ok (.aload_n 0, 1) := by decide +kernel
theorem dX4_endMeasure_24 : decode cX4_endMeasure 24 = .ok (.aload_n 0, 1) := by decide +kernel
theorem dX4_endMeasure_25 : decode cX4_endMeasure 25 = .ok (.getfield 41, 3) := by decide +kernel
theorem dX4_endMeasure_28 : decode cX4_endMeasure 28 = .ok (.aload_n 0, 1) := by decide +kernel
theorem dX4_endMeasure_29 : decode cX4_endMeasure 29 = .ok (.getfield 38, 3) := by decide +kernel
theorem dX4_endMeasure_32 : decode cX4_endMeasure 32 = .ok (.isub, 1) := by decide +kernel
theorem dX4_endMeasure_33 : decode cX4_endMeasure 33 = .ok (.invokevirtual 59, 3) := by decide +kernel
theorem dX4_endMeasure_36 : decode cX4_endMeasure 36 = .ok (.return_, 1) := by decide +kernel
theorem dX5_takeThanked_0 : decode cX5_takeThanked 0 = .ok (.aload_n 0, 1) := by decide +kernel
theorem dX5_takeThanked_1 : decode cX5_takeThanked 1 = .ok (.getfield 21, 3) := by decide +kernel
theorem dX5_takeThanked_4 : decode cX5_takeThanked 4 = .ok (.aload_n 0, 1) := by decide +kernel
theorem dX5_takeThanked_5 : decode cX5_takeThanked 5 = .ok (.getfield 49, 3) := by decide +kernel
theorem dX5_takeThanked_8 : decode cX5_takeThanked 8 = .ok (.getfield 223, 3) := by decide +kernel
theorem dX5_takeThanked_11 : decode cX5_takeThanked 11 = .ok (.invokevirtual 423, 3) := by decide +kernel
theorem dX5_takeThanked_14 : decode cX5_takeThanked 14 = .ok (.aload_n 0, 1) := by decide +kernel
theorem dX5_takeThanked_15 : decode cX5_takeThanked 15 = .ok (.getfield 35, 3) := by decide +kernel
theorem dX5_takeThanked_18 : decode cX5_takeThanked 18 = .ok (.aload_n 0, 1) := by decide +kernel
theorem dX5_takeThanked_19 : decode cX5_takeThanked 19 = .ok (.getfield 49, 3) := by decide +kernel
theorem dX5_takeThanked_22 : decode cX5_takeThanked 22 = .ok (.getfield 223, 3) := by decide +kernel
theorem dX5_takeThanked_25 : decode cX5_takeThanked 25 = .ok (.invokevirtual 426, 3) := by decide +kernel
theorem dX5_takeThanked_28 : decode cX5_takeThanked 28 = .ok (.aload_n 0, 1) := by decide +kernel
theorem dX5_takeThanked_29 : decode cX5_takeThanked 29 = .ok (.getfield 35, 3) := by decide +kernel
theorem dX5_takeThanked_32 : decode cX5_takeThanked 32 = .ok (.iconst 0, 1) := by decide +kernel
theorem dX5_takeThanked_33 : decode cX5_takeThanked 33 = .ok (.putfield 270, 3) := by decide +kernel
theorem dX5_takeThanked_36 : decode cX5_takeThanked 36 = .ok (.aload_n 0, 1) := by decide +kernel
theorem dX5_takeThanked_37 : decode cX5_takeThanked 37 = .ok (.getfield 35, 3) := by decide +kernel
theorem dX5_takeThanked_40 : decode cX5_takeThanked 40 = .ok (.iconst 0, 1) := by decide +kernel
theorem dX5_takeThanked_41 : decode cX5_takeThanked 41 = .ok (.putfield 155, 3) := by decide +kernel
theorem dX5_takeThanked_44 : decode cX5_takeThanked 44 = .ok (.aload_n 0, 1) := by decide +kernel
theorem dX5_takeThanked_45 : decode cX5_takeThanked 45 = .ok (.getfield 21, 3) := by decide +kernel
theorem dX5_takeThanked_48 : decode cX5_takeThanked 48 = .ok (.invokevirtual 317, 3) := by decide +kernel
theorem dX5_takeThanked_51 : decode cX5_takeThanked 51 = .ok (.ifCond .eq 10, 3) := by decide +kernel
theorem dX5_takeThanked_54 : decode cX5_takeThanked 54 = .ok (.aload_n 0, 1) := by decide +kernel
theorem dX5_takeThanked_55 : decode cX5_takeThanked 55 = .ok (.getfield 35, 3) := by decide +kernel
theorem dX5_takeThanked_58 : decode cX5_takeThanked 58 = .ok (.invokevirtual 323, 3) := by decide +kernel
theorem dX5_takeThanked_61 : decode cX5_takeThanked 61 = .ok (.aload_n 0, 1) := by decide +kernel
theorem dX5_takeThanked_62 : decode cX5_takeThanked 62 = .ok (.getfield 42, 3) := by decide +kernel
theorem dX5_takeThanked_65 : decode cX5_takeThanked 65 = .ok (.iconst 0, 1) := by decide +kernel
theorem dX5_takeThanked_66 : decode cX5_takeThanked 66 = .ok (.putfield 179, 3) := by decide +kernel
theorem dX5_takeThanked_69 : decode cX5_takeThanked 69 = .ok (.return_, 1) := by decide +kernel
theorem dX5_answerWithReset_0 : decode cX5_answerWithReset 0 = .ok (.aload_n 0, 1) := by decide +kernel
theorem dX5_answerWithReset_1 : decode cX5_answerWithReset 1 = .ok (.getfield 49, 3) := by decide +kernel
theorem dX5_answerWithReset_4 : decode cX5_answerWithReset 4 = .ok (.iconst 4, 1) := by decide +kernel
theorem dX5_answerWithReset_5 : decode cX5_answerWithReset 5 = .ok (.invokevirtual 338, 3) := by decide +kernel
theorem dX5_answerWithReset_8 : decode cX5_answerWithReset 8 = .ok (.ifCond .eq 4, 3) := by decide +kernel
theorem dX5_answerWithReset_11 : decode cX5_answerWithReset 11 = .ok (.return_, 1) := by decide +kernel
theorem dX5_answerWithReset_12 : decode cX5_answerWithReset 12 = .ok (.aload_n 0, 1) := by decide +kernel
theorem dX5_answerWithReset_13 : decode cX5_answerWithReset 13 = .ok (.getfield 49, 3) := by decide +kernel
theorem dX5_answerWithReset_16 : decode cX5_answerWithReset 16 = .ok (.bipush 8, 2) := by decide +kernel
theorem dX5_answerWithReset_18 : decode cX5_answerWithReset 18 = .ok (.invokevirtual 338, 3) := by decide +kernel
theorem dX5_answerWithReset_21 : decode cX5_answerWithReset 21 = .ok (.ifCond .eq 22, 3) := by decide +kernel
theorem dX5_answerWithReset_24 : decode cX5_answerWithReset 24 = .ok (.aload_n 0, 1) := by decide +kernel
theorem dX5_answerWithReset_25 : decode cX5_answerWithReset 25 = .ok (.getfield 42, 3) := by decide +kernel
theorem dX5_answerWithReset_28 : decode cX5_answerWithReset 28 = .ok (.iconst 4, 1) := by decide +kernel
theorem dX5_answerWithReset_29 : decode cX5_answerWithReset 29 = .ok (.aload_n 0, 1) := by decide +kernel
theorem dX5_answerWithReset_30 : decode cX5_answerWithReset 30 = .ok (.getfield 49, 3) := by decide +kernel
theorem dX5_answerWithReset_33 : decode cX5_answerWithReset 33 = .ok (.getfield 223, 3) := by decide +kernel
theorem dX5_answerWithReset_36 : decode cX5_answerWithReset 36 = .ok (.iconst 0, 1) := by decide +kernel
theorem dX5_answerWithReset_37 : decode cX5_answerWithReset 37 = .ok (.invokevirtual 143, 3) := by decide +kernel
theorem dX5_answerWithReset_40 : decode cX5_answerWithReset 40 = .ok (.goto 28, 3) := by decide +kernel
theorem dX5_answerWithReset_43 : decode cX5_answerWithReset 43 = .ok (.aload_n 0, 1) := by decide +kernel
theorem dX5_answerWithReset_44 : decode cX5_answerWithReset 44 = .ok (.getfield 42, 3) := by decide +kernel
theorem dX5_answerWithReset_47 : decode cX5_answerWithReset 47 = .ok (.bipush 12, 2) := by decide +kernel
theorem dX5_answerWithReset_49 : decode cX5_answerWithReset 49 = .ok (.iconst 0, 1) := by decide +kernel
theorem dX5_answerWithReset_50 : decode cX5_answerWithReset 50 = .ok (.aload_n 0, 1) := by decide +kernel
theorem dX5_answerWithReset_51 : decode cX5_answerWithReset 51 = .ok (.getfield 49, 3) := by decide +kernel
theorem dX5_answerWithReset_54 : decode cX5_answerWithReset 54 = .ok (.getfield 220, 3) := by decide +kernel
theorem dX5_answerWithReset_57 : decode cX5_answerWithReset 57 = .ok (.aload_n 0, 1) := by decide +kernel
theorem dX5_answerWithReset_58 : decode cX5_answerWithReset 58 = .ok (.getfield 49, 3) := by decide +kernel
theorem dX5_answerWithReset_61 : decode cX5_answerWithReset 61 = .ok (.invokevirtual 381, 3) := by decide +kernel
theorem dX5_answerWithReset_64 : decode cX5_answerWithReset 64 = .ok (.iadd, 1) := by decide +kernel
theorem dX5_answerWithReset_65 : decode cX5_answerWithReset 65 = .ok (.invokevirtual 143, 3) := by decide +kernel
theorem dX5_answerWithReset_68 : decode cX5_answerWithReset 68 = .ok (.return_, 1) := by decide +kernel
theorem dX5_takeInStream_0 : decode cX5_takeInStream 0 = .ok (.aload_n 0, 1) := by decide +kernel
theorem dX5_takeInStream_1 : decode cX5_takeInStream 1 = .ok (.getfield 60, 3) := by decide +kernel
theorem dX5_takeInStream_4 : decode cX5_takeInStream 4 = .ok (.iconst 3, 1) := by decide +kernel
theorem dX5_takeInStream_5 : decode cX5_takeInStream 5 = .ok (.if_icmp .ne 55, 3) := by decide +kernel
theorem dX5_takeInStream_8 : decode cX5_takeInStream 8 = .ok (.aload_n 0, 1) := by decide +kernel
theorem dX5_takeInStream_9 : decode cX5_takeInStream 9 = .ok (.getfield 49, 3) := by decide +kernel
theorem dX5_takeInStream_12 : decode cX5_takeInStream 12 = .ok (.getfield 223, 3) := by decide +kernel
theorem dX5_takeInStream_15 : decode cX5_takeInStream 15 = .ok (.aload_n 0, 1) := by decide +kernel
theorem dX5_takeInStream_16 : decode cX5_takeInStream 16 = .ok (.getfield 21, 3) := by decide +kernel
theorem dX5_takeInStream_19 : decode cX5_takeInStream 19 = .ok (.getfield 137, 3) := by decide +kernel
theorem dX5_takeInStream_22 : decode cX5_takeInStream 22 = .ok (.if_icmp .eq 8, 3) := by decide +kernel
theorem dX5_takeInStream_25 : decode cX5_takeInStream 25 = .ok (.aload_n 0, 1) := by decide +kernel
theorem dX5_takeInStream_26 : decode cX5_takeInStream 26 = .ok (.invokevirtual 372, 3) := by decide +kernel
theorem dX5_takeInStream_29 : decode cX5_takeInStream 29 = .ok (.return_, 1) := by decide +kernel
theorem dX5_takeInStream_30 : decode cX5_takeInStream 30 = .ok (.aload_n 0, 1) := by decide +kernel
theorem dX5_takeInStream_31 : decode cX5_takeInStream 31 = .ok (.aload_n 0, 1) := by decide +kernel
theorem dX5_takeInStream_32 : decode cX5_takeInStream 32 = .ok (.getfield 21, 3) := by decide +kernel
theorem dX5_takeInStream_35 : decode cX5_takeInStream 35 = .ok (.getfield 93, 3) := by decide +kernel
theorem dX5_takeInStream_38 : decode cX5_takeInStream 38 = .ok (.ifCond .eq 7, 3) := by decide +kernel
theorem dX5_takeInStream_41 : decode cX5_takeInStream 41 = .ok (.iconst 5, 1) := by decide +kernel
theorem dX5_takeInStream_42 : decode cX5_takeInStream 42 = .ok (.goto 4, 3) := by decide +kernel
theorem dX5_takeInStream_45 : decode cX5_takeInStream 45 = .ok (.iconst 4, 1) := by decide +kernel
theorem dX5_takeInStream_46 : decode cX5_takeInStream 46 = .ok (.putfield 60, 3) := by decide +kernel
theorem dX5_takeInStream_49 : decode cX5_takeInStream 49 = .ok (.aload_n 0, 1) := by decide +kernel
theorem dX5_takeInStream_50 : decode cX5_takeInStream 50 = .ok (.getfield 42, 3) := by decide +kernel
theorem dX5_takeInStream_53 : decode cX5_takeInStream 53 = .ok (.iconst 0, 1) := by decide +kernel
theorem dX5_takeInStream_54 : decode cX5_takeInStream 54 = .ok (.putfield 173, 3) := by decide +kernel
theorem dX5_takeInStream_57 : decode cX5_takeInStream 57 = .ok (.goto 32, 3) := by decide +kernel
theorem dX5_takeInStream_60 : decode cX5_takeInStream 60 = .ok (.aload_n 0, 1) := by decide +kernel
theorem dX5_takeInStream_61 : decode cX5_takeInStream 61 = .ok (.getfield 21, 3) := by decide +kernel
theorem dX5_takeInStream_64 : decode cX5_takeInStream 64 = .ok (.getfield 137, 3) := by decide +kernel
theorem dX5_takeInStream_67 : decode cX5_takeInStream 67 = .ok (.aload_n 0, 1) := by decide +kernel
theorem dX5_takeInStream_68 : decode cX5_takeInStream 68 = .ok (.getfield 49, 3) := by decide +kernel
theorem dX5_takeInStream_71 : decode cX5_takeInStream 71 = .ok (.getfield 223, 3) := by decide +kernel
theorem dX5_takeInStream_74 : decode cX5_takeInStream 74 = .ok (.invokestatic 408, 3) := by decide +kernel
theorem dX5_takeInStream_77 : decode cX5_takeInStream 77 = .ok (.ifCond .eq 12, 3) := by decide +kernel
theorem dX5_takeInStream_80 : decode cX5_takeInStream 80 = .ok (.aload_n 0, 1) := by decide +kernel
theorem dX5_takeInStream_81 : decode cX5_takeInStream 81 = .ok (.getfield 42, 3) := by decide +kernel
theorem dX5_takeInStream_84 : decode cX5_takeInStream 84 = .ok (.iconst 1, 1) := by decide +kernel
theorem dX5_takeInStream_85 : decode cX5_takeInStream 85 = .ok (.putfield 206, 3) := by decide +kernel
theorem dX5_takeInStream_88 : decode cX5_takeInStream 88 = .ok (.return_, 1) := by decide +kernel
theorem dX5_takeInStream_89 : decode cX5_takeInStream 89 = .ok (.aload_n 0, 1) := by decide +kernel
theorem dX5_takeInStream_90 : decode cX5_takeInStream 90 = .ok (.getfield 21, 3) := by decide +kernel
theorem dX5_takeInStream_93 : decode cX5_takeInStream 93 = .ok (.getfield 259, 3) := by decide +kernel
theorem dX5_takeInStream_96 : decode cX5_takeInStream 96 = .ok (.aload_n 0, 1) := by decide +kernel
theorem dX5_takeInStream_97 : decode cX5_takeInStream 97 = .ok (.getfield 49, 3) := by decide +kernel
theorem dX5_takeInStream_100 : decode cX5_takeInStream 100 = .ok (.getfield 223, 3) := by decide +kernel
theorem dX5_takeInStream_103 : decode cX5_takeInStream 103 = .ok (.invokestatic 408, 3) := by decide +kernel
theorem dX5_takeInStream_106 : decode cX5_takeInStream 106 = .ok (.ifCond .eq 7, 3) := by decide +kernel
theorem dX5_takeInStream_109 : decode cX5_takeInStream 109 = .ok (.aload_n 0, 1) := by decide +kernel
theorem dX5_takeInStream_110 : decode cX5_takeInStream 110 = .ok (.invokevirtual 400, 3) := by decide +kernel
theorem dX5_takeInStream_113 : decode cX5_takeInStream 113 = .ok (.aload_n 0, 1) := by decide +kernel
theorem dX5_takeInStream_114 : decode cX5_takeInStream 114 = .ok (.invokevirtual 411, 3) := by decide +kernel
theorem dX5_takeInStream_117 : decode cX5_takeInStream 117 = .ok (.aload_n 0, 1) := by decide +kernel
theorem dX5_takeInStream_118 : decode cX5_takeInStream 118 = .ok (.getfield 21, 3) := by decide +kernel
theorem dX5_takeInStream_121 : decode cX5_takeInStream 121 = .ok (.invokevirtual 414, 3) := by decide +kernel
theorem dX5_takeInStream_124 : decode cX5_takeInStream 124 = .ok (.ifCond .eq 7, 3) := by decide +kernel
theorem dX5_takeInStream_127 : decode cX5_takeInStream 127 = .ok (.aload_n 0, 1) := by decide +kernel
theorem dX5_takeInStream_128 : decode cX5_takeInStream 128 = .ok (.invokevirtual 417, 3) := by decide +kernel
theorem dX5_takeInStream_131 : decode cX5_takeInStream 131 = .ok (.aload_n 0, 1) := by decide +kernel
theorem dX5_takeInStream_132 : decode cX5_takeInStream 132 = .ok (.getfield 60, 3) := by decide +kernel
theorem dX5_takeInStream_135 : decode cX5_takeInStream 135 = .ok (.ifCond .eq 7, 3) := by decide +kernel
theorem dX5_takeInStream_138 : decode cX5_takeInStream 138 = .ok (.aload_n 0, 1) := by decide +kernel
theorem dX5_takeInStream_139 : decode cX5_takeInStream 139 = .ok (.invokevirtual 420, 3) := by decide +kernel
theorem dX5_takeInStream_142 : decode cX5_takeInStream 142 = .ok (.return_, 1) := by decide +kernel
theorem dX5_takeReset_0 : decode cX5_takeReset 0 = .ok (.aload_n 0, 1) := by decide +kernel
theorem dX5_takeReset_1 : decode cX5_takeReset 1 = .ok (.getfield 49, 3) := by decide +kernel
theorem dX5_takeReset_4 : decode cX5_takeReset 4 = .ok (.getfield 220, 3) := by decide +kernel
theorem dX5_takeReset_7 : decode cX5_takeReset 7 = .ok (.aload_n 0, 1) := by decide +kernel
theorem dX5_takeReset_8 : decode cX5_takeReset 8 = .ok (.getfield 28, 3) := by decide +kernel
theorem dX5_takeReset_11 : decode cX5_takeReset 11 = .ok (.getfield 140, 3) := by decide +kernel
theorem dX5_takeReset_14 : decode cX5_takeReset 14 = .ok (.if_icmp .eq 14, 3) := by decide +kernel
theorem dX5_takeReset_17 : decode cX5_takeReset 17 = .ok (.aload_n 0, 1) := by decide +kernel
theorem dX5_takeReset_18 : decode cX5_takeReset 18 = .ok (.getfield 42, 3) := by decide +kernel
theorem dX5_takeReset_21 : decode cX5_takeReset 21 = .ok (.iconst 1, 1) := by decide +kernel
theorem dX5_takeReset_22 : decode cX5_takeReset 22 = .ok (.putfield 206, 3) := by decide +kernel
theorem dX5_takeReset_25 : decode cX5_takeReset 25 = .ok (.goto 74, 3) := by decide +kernel
theorem dX5_takeReset_28 : decode cX5_takeReset 28 = .ok (.aload_n 0, 1) := by decide +kernel
theorem dX5_takeReset_29 : decode cX5_takeReset 29 = .ok (.getfield 60, 3) := by decide +kernel
theorem dX5_takeReset_32 : decode cX5_takeReset 32 = .ok (.iconst 3, 1) := by decide +kernel
theorem dX5_takeReset_33 : decode cX5_takeReset 33 = .ok (.if_icmp .ne 25, 3) := by decide +kernel
theorem dX5_takeReset_36 : decode cX5_takeReset 36 = .ok (.aload_n 0, 1) := by decide +kernel
theorem dX5_takeReset_37 : decode cX5_takeReset 37 = .ok (.getfield 63, 3) := by decide +kernel
theorem dX5_takeReset_40 : decode cX5_takeReset 40 = .ok (.ifCond .eq 18, 3) := by decide +kernel
theorem dX5_takeReset_43 : decode cX5_takeReset 43 = .ok (.aload_n 0, 1) := by decide +kernel
theorem dX5_takeReset_44 : decode cX5_takeReset 44 = .ok (.aload_n 0, 1) := by decide +kernel
theorem dX5_takeReset_45 : decode cX5_takeReset 45 = .ok (.getfield 21, 3) := by decide +kernel
theorem dX5_takeReset_48 : decode cX5_takeReset 48 = .ok (.getfield 296, 3) := by decide +kernel
theorem dX5_takeReset_51 : decode cX5_takeReset 51 = .ok (.iconst 1, 1) := by decide +kernel
theorem dX5_takeReset_52 : decode cX5_takeReset 52 = .ok (.invokevirtual 80, 3) := by decide +kernel
theorem dX5_takeReset_55 : decode cX5_takeReset 55 = .ok (.goto 44, 3) := by decide +kernel
theorem dX5_takeReset_58 : decode cX5_takeReset 58 = .ok (.aload_n 0, 1) := by decide +kernel
theorem dX5_takeReset_59 : decode cX5_takeReset 59 = .ok (.getfield 60, 3) := by decide +kernel
theorem dX5_takeReset_62 : decode cX5_takeReset 62 = .ok (.bipush 8, 2) := by decide +kernel
theorem dX5_takeReset_64 : decode cX5_takeReset 64 = .ok (.if_icmp .eq 21, 3) := by decide +kernel
theorem dX5_takeReset_67 : decode cX5_takeReset 67 = .ok (.aload_n 0, 1) := by decide +kernel
theorem dX5_takeReset_68 : decode cX5_takeReset 68 = .ok (.getfield 60, 3) := by decide +kernel
theorem dX5_takeReset_71 : decode cX5_takeReset 71 = .ok (.bipush 9, 2) := by decide +kernel
theorem dX5_takeReset_73 : decode cX5_takeReset 73 = .ok (.if_icmp .eq 12, 3) := by decide +kernel
theorem dX5_takeReset_76 : decode cX5_takeReset 76 = .ok (.aload_n 0, 1) := by decide +kernel
theorem dX5_takeReset_77 : decode cX5_takeReset 77 = .ok (.getfield 60, 3) := by decide +kernel
theorem dX5_takeReset_80 : decode cX5_takeReset 80 = .ok (.bipush 10, 2) := by decide +kernel
theorem dX5_takeReset_82 : decode cX5_takeReset 82 = .ok (.if_icmp .ne 11, 3) := by decide +kernel
theorem dX5_takeReset_85 : decode cX5_takeReset 85 = .ok (.aload_n 0, 1) := by decide +kernel
theorem dX5_takeReset_86 : decode cX5_takeReset 86 = .ok (.iconst 0, 1) := by decide +kernel
theorem dX5_takeReset_87 : decode cX5_takeReset 87 = .ok (.invokevirtual 132, 3) := by decide +kernel
theorem dX5_takeReset_90 : decode cX5_takeReset 90 = .ok (.goto 9, 3) := by decide +kernel
theorem dX5_takeReset_93 : decode cX5_takeReset 93 = .ok (.aload_n 0, 1) := by decide +kernel
theorem dX5_takeReset_94 : decode cX5_takeReset 94 = .ok (.bipush 11, 2) := by decide +kernel
theorem dX5_takeReset_96 : decode cX5_takeReset 96 = .ok (.invokevirtual 132, 3) := by decide +kernel
theorem dX5_takeReset_99 : decode cX5_takeReset 99 = .ok (.return_, 1) := by decide +kernel
theorem dX5_takeMisfit_0 : decode cX5_takeMisfit 0 = .ok (.aload_n 0, 1) := by decide +kernel
theorem dX5_takeMisfit_1 : decode cX5_takeMisfit 1 = .ok (.getfield 49, 3) := by decide +kernel
theorem dX5_takeMisfit_4 : decode cX5_takeMisfit 4 = .ok (.iconst 4, 1) := by decide +kernel
theorem dX5_takeMisfit_5 : decode cX5_takeMisfit 5 = .ok (.invokevirtual 338, 3) := by decide +kernel
theorem dX5_takeMisfit_8 : decode cX5_takeMisfit 8 = .ok (.ifCond .ne 11, 3) := by decide +kernel
theorem dX5_takeMisfit_11 : decode cX5_takeMisfit 11 = .ok (.aload_n 0, 1) := by decide +kernel
theorem dX5_takeMisfit_12 : decode cX5_takeMisfit 12 = .ok (.getfield 42, 3) := by decide +kernel
theorem dX5_takeMisfit_15 : decode cX5_takeMisfit 15 = .ok (.iconst 1, 1) := by decide +kernel
theorem dX5_takeMisfit_16 : decode cX5_takeMisfit 16 = .ok (.putfield 206, 3) := by decide +kernel
theorem dX5_takeMisfit_19 : decode cX5_takeMisfit 19 = .ok (.aload_n 0, 1) := by decide +kernel
end
section
/-! written by program (wip/gen) -/
theorem dX5_takeMisfit_20 : decode cX5_takeMisfit 20 = .ok (.getfield 60, 3) := by decide +kernel
theorem dX5_takeMisfit_23 : decode cX5_takeMisfit 23 = .ok (.bipush 10, 2) := by decide +kernel
theorem dX5_takeMisfit_25 : decode cX5_takeMisfit 25 = .ok (.if_icmp .ne 18, 3) := by decide +kernel
theorem dX5_takeMisfit_28 : decode cX5_takeMisfit 28 = .ok (.aload_n 0, 1) := by decide +kernel
theorem dX5_takeMisfit_29 : decode cX5_takeMisfit 29 = .ok (.getfield 49, 3) := by decide +kernel
theorem dX5_takeMisfit_32 : decode cX5_takeMisfit 32 = .ok (.iconst 2, 1) := by decide +kernel
theorem dX5_takeMisfit_33 : decode cX5_takeMisfit 33 = .ok (.invokevirtual 338, 3) := by decide +kernel
theorem dX5_takeMisfit_36 : decode cX5_takeMisfit 36 = .ok (.ifCond .eq 7, 3) := by decide +kernel
theorem dX5_takeMisfit_39 : decode cX5_takeMisfit 39 = .ok (.aload_n 0, 1) := by decide +kernel
theorem dX5_takeMisfit_40 : decode cX5_takeMisfit 40 = .ok (.invokevirtual 302, 3) := by decide +kernel
theorem dX5_takeMisfit_43 : decode cX5_takeMisfit 43 = .ok (.return_, 1) := by decide +kernel
theorem dX1_open_0 : decode cX1_open 0 = .ok (.aload_n 0, 1) := by decide +kernel
theorem dX1_open_1 : decode cX1_open 1 = .ok (.iconst 1, 1) := by decide +kernel
theorem dX1_open_2 : decode cX1_open 2 = .ok (.putfield 21, 3) := by decide +kernel
theorem dX1_open_5 : decode cX1_open 5 = .ok (.aload_n 0, 1) := by decide +kernel
theorem dX1_open_6 : decode cX1_open 6 = .ok (.iload_n 1, 1) := by decide +kernel
theorem dX1_open_7 : decode cX1_open 7 = .ok (.putfield 25, 3) := by decide +kernel
theorem dX1_open_10 : decode cX1_open 10 = .ok (.aload_n 0, 1) := by decide +kernel
theorem dX1_open_11 : decode cX1_open 11 = .ok (.iload_n 1, 1) := by decide +kernel
theorem dX1_open_12 : decode cX1_open 12 = .ok (.putfield 32, 3) := by decide +kernel
theorem dX1_open_15 : decode cX1_open 15 = .ok (.return_, 1) := by decide +kernel
theorem dX5_takeOpen_0 : decode cX5_takeOpen 0 = .ok (.aload_n 0, 1) := by decide +kernel
theorem dX5_takeOpen_1 : decode cX5_takeOpen 1 = .ok (.getfield 28, 3) := by decide +kernel
theorem dX5_takeOpen_4 : decode cX5_takeOpen 4 = .ok (.aload_n 0, 1) := by decide +kernel
theorem dX5_takeOpen_5 : decode cX5_takeOpen 5 = .ok (.getfield 49, 3) := by decide +kernel
theorem dX5_takeOpen_8 : decode cX5_takeOpen 8 = .ok (.getfield 220, 3) := by decide +kernel
theorem dX5_takeOpen_11 : decode cX5_takeOpen 11 = .ok (.iconst 1, 1) := by decide +kernel
theorem dX5_takeOpen_12 : decode cX5_takeOpen 12 = .ok (.iadd, 1) := by decide +kernel
theorem dX5_takeOpen_13 : decode cX5_takeOpen 13 = .ok (.invokevirtual 403, 3) := by decide +kernel
theorem dX5_takeOpen_16 : decode cX5_takeOpen 16 = .ok (.aload_n 0, 1) := by decide +kernel
theorem dX5_takeOpen_17 : decode cX5_takeOpen 17 = .ok (.getfield 49, 3) := by decide +kernel
theorem dX5_takeOpen_20 : decode cX5_takeOpen 20 = .ok (.getfield 229, 3) := by decide +kernel
theorem dX5_takeOpen_23 : decode cX5_takeOpen 23 = .ok (.ifCond .ne 9, 3) := by decide +kernel
theorem dX5_takeOpen_26 : decode cX5_takeOpen 26 = .ok (.sipush 536, 3) := by decide +kernel
theorem dX5_takeOpen_29 : decode cX5_takeOpen 29 = .ok (.goto 10, 3) := by decide +kernel
theorem dX5_takeOpen_32 : decode cX5_takeOpen 32 = .ok (.aload_n 0, 1) := by decide +kernel
theorem dX5_takeOpen_33 : decode cX5_takeOpen 33 = .ok (.getfield 49, 3) := by decide +kernel
theorem dX5_takeOpen_36 : decode cX5_takeOpen 36 = .ok (.getfield 229, 3) := by decide +kernel
theorem dX5_takeOpen_39 : decode cX5_takeOpen 39 = .ok (.istore_n 1, 1) := by decide +kernel
theorem dX5_takeOpen_40 : decode cX5_takeOpen 40 = .ok (.aload_n 0, 1) := by decide +kernel
theorem dX5_takeOpen_41 : decode cX5_takeOpen 41 = .ok (.getfield 21, 3) := by decide +kernel
theorem dX5_takeOpen_44 : decode cX5_takeOpen 44 = .ok (.aload_n 0, 1) := by decide +kernel
theorem dX5_takeOpen_45 : decode cX5_takeOpen 45 = .ok (.getfield 9, 3) := by decide +kernel
theorem dX5_takeOpen_48 : decode cX5_takeOpen 48 = .ok (.iload_n 1, 1) := by decide +kernel
theorem dX5_takeOpen_49 : decode cX5_takeOpen 49 = .ok (.invokestatic 102, 3) := by decide +kernel
theorem dX5_takeOpen_52 : decode cX5_takeOpen 52 = .ok (.putfield 273, 3) := by decide +kernel
theorem dX5_takeOpen_55 : decode cX5_takeOpen 55 = .ok (.aload_n 0, 1) := by decide +kernel
theorem dX5_takeOpen_56 : decode cX5_takeOpen 56 = .ok (.getfield 49, 3) := by decide +kernel
theorem dX5_takeOpen_59 : decode cX5_takeOpen 59 = .ok (.bipush 8, 2) := by decide +kernel
theorem dX5_takeOpen_61 : decode cX5_takeOpen 61 = .ok (.invokevirtual 338, 3) := by decide +kernel
theorem dX5_takeOpen_64 : decode cX5_takeOpen 64 = .ok (.ifCond .eq 13, 3) := by decide +kernel
theorem dX5_takeOpen_67 : decode cX5_takeOpen 67 = .ok (.aload_n 0, 1) := by decide +kernel
theorem dX5_takeOpen_68 : decode cX5_takeOpen 68 = .ok (.getfield 49, 3) := by decide +kernel
theorem dX5_takeOpen_71 : decode cX5_takeOpen 71 = .ok (.getfield 223, 3) := by decide +kernel
theorem dX5_takeOpen_74 : decode cX5_takeOpen 74 = .ok (.goto 10, 3) := by decide +kernel
theorem dX5_takeOpen_77 : decode cX5_takeOpen 77 = .ok (.aload_n 0, 1) := by decide +kernel
theorem dX5_takeOpen_78 : decode cX5_takeOpen 78 = .ok (.getfield 21, 3) := by decide +kernel
theorem dX5_takeOpen_81 : decode cX5_takeOpen 81 = .ok (.getfield 296, 3) := by decide +kernel
theorem dX5_takeOpen_84 : decode cX5_takeOpen 84 = .ok (.istore_n 2, 1) := by decide +kernel
theorem dX5_takeOpen_85 : decode cX5_takeOpen 85 = .ok (.aload_n 0, 1) := by decide +kernel
theorem dX5_takeOpen_86 : decode cX5_takeOpen 86 = .ok (.getfield 21, 3) := by decide +kernel
theorem dX5_takeOpen_89 : decode cX5_takeOpen 89 = .ok (.aload_n 0, 1) := by decide +kernel
theorem dX5_takeOpen_90 : decode cX5_takeOpen 90 = .ok (.getfield 49, 3) := by decide +kernel
theorem dX5_takeOpen_93 : decode cX5_takeOpen 93 = .ok (.getfield 226, 3) := by decide +kernel
theorem dX5_takeOpen_96 : decode cX5_takeOpen 96 = .ok (.aload_n 0, 1) := by decide +kernel
theorem dX5_takeOpen_97 : decode cX5_takeOpen 97 = .ok (.getfield 49, 3) := by decide +kernel
theorem dX5_takeOpen_100 : decode cX5_takeOpen 100 = .ok (.getfield 220, 3) := by decide +kernel
theorem dX5_takeOpen_103 : decode cX5_takeOpen 103 = .ok (.iload_n 2, 1) := by decide +kernel
theorem dX5_takeOpen_104 : decode cX5_takeOpen 104 = .ok (.invokevirtual 405, 3) := by decide +kernel
theorem dX5_takeOpen_107 : decode cX5_takeOpen 107 = .ok (.return_, 1) := by decide +kernel
theorem dX5_takeWhenAsking_0 : decode cX5_takeWhenAsking 0 = .ok (.aload_n 0, 1) := by decide +kernel
theorem dX5_takeWhenAsking_1 : decode cX5_takeWhenAsking 1 = .ok (.getfield 49, 3) := by decide +kernel
theorem dX5_takeWhenAsking_4 : decode cX5_takeWhenAsking 4 = .ok (.bipush 8, 2) := by decide +kernel
theorem dX5_takeWhenAsking_6 : decode cX5_takeWhenAsking 6 = .ok (.invokevirtual 338, 3) := by decide +kernel
theorem dX5_takeWhenAsking_9 : decode cX5_takeWhenAsking 9 = .ok (.istore_n 1, 1) := by decide +kernel
theorem dX5_takeWhenAsking_10 : decode cX5_takeWhenAsking 10 = .ok (.iload_n 1, 1) := by decide +kernel
theorem dX5_takeWhenAsking_11 : decode cX5_takeWhenAsking 11 = .ok (.ifCond .eq 27, 3) := by decide +kernel
theorem dX5_takeWhenAsking_14 : decode cX5_takeWhenAsking 14 = .ok (.aload_n 0, 1) := by decide +kernel
theorem dX5_takeWhenAsking_15 : decode cX5_takeWhenAsking 15 = .ok (.getfield 49, 3) := by decide +kernel
theorem dX5_takeWhenAsking_18 : decode cX5_takeWhenAsking 18 = .ok (.getfield 223, 3) := by decide +kernel
theorem dX5_takeWhenAsking_21 : decode cX5_takeWhenAsking 21 = .ok (.aload_n 0, 1) := by decide +kernel
theorem dX5_takeWhenAsking_22 : decode cX5_takeWhenAsking 22 = .ok (.getfield 21, 3) := by decide +kernel
theorem dX5_takeWhenAsking_25 : decode cX5_takeWhenAsking 25 = .ok (.getfield 137, 3) := by decide +kernel
theorem dX5_takeWhenAsking_28 : decode cX5_takeWhenAsking 28 = .ok (.if_icmp .eq 10, 3) := by decide +kernel
theorem dX5_takeWhenAsking_31 : decode cX5_takeWhenAsking 31 = .ok (.aload_n 0, 1) := by decide +kernel
theorem dX5_takeWhenAsking_32 : decode cX5_takeWhenAsking 32 = .ok (.invokevirtual 372, 3) := by decide +kernel
theorem dX5_takeWhenAsking_35 : decode cX5_takeWhenAsking 35 = .ok (.goto 87, 3) := by decide +kernel
theorem dX5_takeWhenAsking_38 : decode cX5_takeWhenAsking 38 = .ok (.aload_n 0, 1) := by decide +kernel
theorem dX5_takeWhenAsking_39 : decode cX5_takeWhenAsking 39 = .ok (.getfield 49, 3) := by decide +kernel
theorem dX5_takeWhenAsking_42 : decode cX5_takeWhenAsking 42 = .ok (.iconst 4, 1) := by decide +kernel
theorem dX5_takeWhenAsking_43 : decode cX5_takeWhenAsking 43 = .ok (.invokevirtual 338, 3) := by decide +kernel
theorem dX5_takeWhenAsking_46 : decode cX5_takeWhenAsking 46 = .ok (.ifCond .eq 16, 3) := by decide +kernel
theorem dX5_takeWhenAsking_49 : decode cX5_takeWhenAsking 49 = .ok (.iload_n 1, 1) := by decide +kernel
theorem dX5_takeWhenAsking_50 : decode cX5_takeWhenAsking 50 = .ok (.ifCond .eq 72, 3) := by decide +kernel
theorem dX5_takeWhenAsking_53 : decode cX5_takeWhenAsking 53 = .ok (.aload_n 0, 1) := by decide +kernel
theorem dX5_takeWhenAsking_54 : decode cX5_takeWhenAsking 54 = .ok (.bipush 11, 2) := by decide +kernel
theorem dX5_takeWhenAsking_56 : decode cX5_takeWhenAsking 56 = .ok (.invokevirtual 132, 3) := by decide +kernel
theorem dX5_takeWhenAsking_59 : decode cX5_takeWhenAsking 59 = .ok (.goto 63, 3) := by decide +kernel
theorem dX5_takeWhenAsking_62 : decode cX5_takeWhenAsking 62 = .ok (.aload_n 0, 1) := by decide +kernel
theorem dX5_takeWhenAsking_63 : decode cX5_takeWhenAsking 63 = .ok (.getfield 49, 3) := by decide +kernel
theorem dX5_takeWhenAsking_66 : decode cX5_takeWhenAsking 66 = .ok (.iconst 1, 1) := by decide +kernel
theorem dX5_takeWhenAsking_67 : decode cX5_takeWhenAsking 67 = .ok (.invokevirtual 338, 3) := by decide +kernel
theorem dX5_takeWhenAsking_70 : decode cX5_takeWhenAsking 70 = .ok (.ifCond .eq 52, 3) := by decide +kernel
theorem dX5_takeWhenAsking_73 : decode cX5_takeWhenAsking 73 = .ok (.aload_n 0, 1) := by decide +kernel
theorem dX5_takeWhenAsking_74 : decode cX5_takeWhenAsking 74 = .ok (.invokevirtual 397, 3) := by decide +kernel
theorem dX5_takeWhenAsking_77 : decode cX5_takeWhenAsking 77 = .ok (.iload_n 1, 1) := by decide +kernel
theorem dX5_takeWhenAsking_78 : decode cX5_takeWhenAsking 78 = .ok (.ifCond .eq 31, 3) := by decide +kernel
theorem dX5_takeWhenAsking_81 : decode cX5_takeWhenAsking 81 = .ok (.aload_n 0, 1) := by decide +kernel
theorem dX5_takeWhenAsking_82 : decode cX5_takeWhenAsking 82 = .ok (.iconst 4, 1) := by decide +kernel
theorem dX5_takeWhenAsking_83 : decode cX5_takeWhenAsking 83 = .ok (.putfield 60, 3) := by decide +kernel
theorem dX5_takeWhenAsking_86 : decode cX5_takeWhenAsking 86 = .ok (.aload_n 0, 1) := by decide +kernel
theorem dX5_takeWhenAsking_87 : decode cX5_takeWhenAsking 87 = .ok (.getfield 42, 3) := by decide +kernel
theorem dX5_takeWhenAsking_90 : decode cX5_takeWhenAsking 90 = .ok (.iconst 0, 1) := by decide +kernel
theorem dX5_takeWhenAsking_91 : decode cX5_takeWhenAsking 91 = .ok (.putfield 173, 3) := by decide +kernel
theorem dX5_takeWhenAsking_94 : decode cX5_takeWhenAsking 94 = .ok (.aload_n 0, 1) := by decide +kernel
theorem dX5_takeWhenAsking_95 : decode cX5_takeWhenAsking 95 = .ok (.invokevirtual 400, 3) := by decide +kernel
theorem dX5_takeWhenAsking_98 : decode cX5_takeWhenAsking 98 = .ok (.aload_n 0, 1) := by decide +kernel
theorem dX5_takeWhenAsking_99 : decode cX5_takeWhenAsking 99 = .ok (.getfield 42, 3) := by decide +kernel
theorem dX5_takeWhenAsking_102 : decode cX5_takeWhenAsking 102 = .ok (.iconst 1, 1) := by decide +kernel
theorem dX5_takeWhenAsking_103 : decode cX5_takeWhenAsking 103 = .ok (.putfield 206, 3) := by decide +kernel
theorem dX5_takeWhenAsking_106 : decode cX5_takeWhenAsking 106 = .ok (.goto 16, 3) := by decide +kernel
theorem dX5_takeWhenAsking_109 : decode cX5_takeWhenAsking 109 = .ok (.aload_n 0, 1) := by decide +kernel
theorem dX5_takeWhenAsking_110 : decode cX5_takeWhenAsking 110 = .ok (.iconst 3, 1) := by decide +kernel
theorem dX5_takeWhenAsking_111 : decode cX5_takeWhenAsking 111 = .ok (.putfield 60, 3) := by decide +kernel
theorem dX5_takeWhenAsking_114 : decode cX5_takeWhenAsking 114 = .ok (.aload_n 0, 1) := by decide +kernel
theorem dX5_takeWhenAsking_115 : decode cX5_takeWhenAsking 115 = .ok (.getfield 42, 3) := by decide +kernel
theorem dX5_takeWhenAsking_118 : decode cX5_takeWhenAsking 118 = .ok (.iconst 1, 1) := by decide +kernel
theorem dX5_takeWhenAsking_119 : decode cX5_takeWhenAsking 119 = .ok (.putfield 173, 3) := by decide +kernel
theorem dX5_takeWhenAsking_122 : decode cX5_takeWhenAsking 122 = .ok (.return_, 1) := by decide +kernel
theorem dX5_takeWhenListening_0 : decode cX5_takeWhenListening 0 = .ok (.aload_n 0, 1) := by decide +kernel
theorem dX5_takeWhenListening_1 : decode cX5_takeWhenListening 1 = .ok (.getfield 49, 3) := by decide +kernel
theorem dX5_takeWhenListening_4 : decode cX5_takeWhenListening 4 = .ok (.iconst 4, 1) := by decide +kernel
theorem dX5_takeWhenListening_5 : decode cX5_takeWhenListening 5 = .ok (.invokevirtual 338, 3) := by decide +kernel
theorem dX5_takeWhenListening_8 : decode cX5_takeWhenListening 8 = .ok (.ifCond .eq 4, 3) := by decide +kernel
theorem dX5_takeWhenListening_11 : decode cX5_takeWhenListening 11 = .ok (.return_, 1) := by decide +kernel
theorem dX5_takeWhenListening_12 : decode cX5_takeWhenListening 12 = .ok (.aload_n 0, 1) := by decide +kernel
theorem dX5_takeWhenListening_13 : decode cX5_takeWhenListening 13 = .ok (.getfield 49, 3) := by decide +kernel
theorem dX5_takeWhenListening_16 : decode cX5_takeWhenListening 16 = .ok (.bipush 8, 2) := by decide +kernel
theorem dX5_takeWhenListening_18 : decode cX5_takeWhenListening 18 = .ok (.invokevirtual 338, 3) := by decide +kernel
theorem dX5_takeWhenListening_21 : decode cX5_takeWhenListening 21 = .ok (.ifCond .eq 10, 3) := by decide +kernel
theorem dX5_takeWhenListening_24 : decode cX5_takeWhenListening 24 = .ok (.aload_n 0, 1) := by decide +kernel
theorem dX5_takeWhenListening_25 : decode cX5_takeWhenListening 25 = .ok (.invokevirtual 372, 3) := by decide +kernel
theorem dX5_takeWhenListening_28 : decode cX5_takeWhenListening 28 = .ok (.goto 27, 3) := by decide +kernel
theorem dX5_takeWhenListening_31 : decode cX5_takeWhenListening 31 = .ok (.aload_n 0, 1) := by decide +kernel
theorem dX5_takeWhenListening_32 : decode cX5_takeWhenListening 32 = .ok (.getfield 49, 3) := by decide +kernel
theorem dX5_takeWhenListening_35 : decode cX5_takeWhenListening 35 = .ok (.iconst 1, 1) := by decide +kernel
theorem dX5_takeWhenListening_36 : decode cX5_takeWhenListening 36 = .ok (.invokevirtual 338, 3) := by decide +kernel
theorem dX5_takeWhenListening_39 : decode cX5_takeWhenListening 39 = .ok (.ifCond .eq 16, 3) := by decide +kernel
theorem dX5_takeWhenListening_42 : decode cX5_takeWhenListening 42 = .ok (.aload_n 0, 1) := by decide +kernel
theorem dX5_takeWhenListening_43 : decode cX5_takeWhenListening 43 = .ok (.invokevirtual 397, 3) := by decide +kernel
theorem dX5_takeWhenListening_46 : decode cX5_takeWhenListening 46 = .ok (.aload_n 0, 1) := by decide +kernel
theorem dX5_takeWhenListening_47 : decode cX5_takeWhenListening 47 = .ok (.iconst 3, 1) := by decide +kernel
theorem dX5_takeWhenListening_48 : decode cX5_takeWhenListening 48 = .ok (.putfield 60, 3) := by decide +kernel
theorem dX5_takeWhenListening_51 : decode cX5_takeWhenListening 51 = .ok (.aload_n 0, 1) := by decide +kernel
theorem dX5_takeWhenListening_52 : decode cX5_takeWhenListening 52 = .ok (.invokevirtual 293, 3) := by decide +kernel
theorem dX5_takeWhenListening_55 : decode cX5_takeWhenListening 55 = .ok (.return_, 1) := by decide +kernel
theorem dX5_takeSegment_0 : decode cX5_takeSegment 0 = .ok (.aload_n 0, 1) := by decide +kernel
theorem dX5_takeSegment_1 : decode cX5_takeSegment 1 = .ok (.invokevirtual 69, 3) := by decide +kernel
theorem dX5_takeSegment_4 : decode cX5_takeSegment 4 = .ok (.ifCond .eq 10, 3) := by decide +kernel
theorem dX5_takeSegment_7 : decode cX5_takeSegment 7 = .ok (.aload_n 0, 1) := by decide +kernel
theorem dX5_takeSegment_8 : decode cX5_takeSegment 8 = .ok (.invokevirtual 372, 3) := by decide +kernel
theorem dX5_takeSegment_11 : decode cX5_takeSegment 11 = .ok (.goto 120, 3) := by decide +kernel
theorem dX5_takeSegment_14 : decode cX5_takeSegment 14 = .ok (.aload_n 0, 1) := by decide +kernel
theorem dX5_takeSegment_15 : decode cX5_takeSegment 15 = .ok (.getfield 60, 3) := by decide +kernel
theorem dX5_takeSegment_18 : decode cX5_takeSegment 18 = .ok (.iconst 1, 1) := by decide +kernel
theorem dX5_takeSegment_19 : decode cX5_takeSegment 19 = .ok (.if_icmp .ne 10, 3) := by decide +kernel
theorem dX5_takeSegment_22 : decode cX5_takeSegment 22 = .ok (.aload_n 0, 1) := by decide +kernel
theorem dX5_takeSegment_23 : decode cX5_takeSegment 23 = .ok (.invokevirtual 375, 3) := by decide +kernel
theorem dX5_takeSegment_26 : decode cX5_takeSegment 26 = .ok (.goto 105, 3) := by decide +kernel
theorem dX5_takeSegment_29 : decode cX5_takeSegment 29 = .ok (.aload_n 0, 1) := by decide +kernel
theorem dX5_takeSegment_30 : decode cX5_takeSegment 30 = .ok (.getfield 60, 3) := by decide +kernel
theorem dX5_takeSegment_33 : decode cX5_takeSegment 33 = .ok (.iconst 2, 1) := by decide +kernel
theorem dX5_takeSegment_34 : decode cX5_takeSegment 34 = .ok (.if_icmp .ne 10, 3) := by decide +kernel
theorem dX5_takeSegment_37 : decode cX5_takeSegment 37 = .ok (.aload_n 0, 1) := by decide +kernel
theorem dX5_takeSegment_38 : decode cX5_takeSegment 38 = .ok (.invokevirtual 378, 3) := by decide +kernel
theorem dX5_takeSegment_41 : decode cX5_takeSegment 41 = .ok (.goto 90, 3) := by decide +kernel
theorem dX5_takeSegment_44 : decode cX5_takeSegment 44 = .ok (.aload_n 0, 1) := by decide +kernel
theorem dX5_takeSegment_45 : decode cX5_takeSegment 45 = .ok (.getfield 28, 3) := by decide +kernel
theorem dX5_takeSegment_48 : decode cX5_takeSegment 48 = .ok (.aload_n 0, 1) := by decide +kernel
theorem dX5_takeSegment_49 : decode cX5_takeSegment 49 = .ok (.getfield 49, 3) := by decide +kernel
theorem dX5_takeSegment_52 : decode cX5_takeSegment 52 = .ok (.getfield 220, 3) := by decide +kernel
theorem dX5_takeSegment_55 : decode cX5_takeSegment 55 = .ok (.aload_n 0, 1) := by decide +kernel
theorem dX5_takeSegment_56 : decode cX5_takeSegment 56 = .ok (.getfield 49, 3) := by decide +kernel
theorem dX5_takeSegment_59 : decode cX5_takeSegment 59 = .ok (.invokevirtual 381, 3) := by decide +kernel
theorem dX5_takeSegment_62 : decode cX5_takeSegment 62 = .ok (.invokevirtual 384, 3) := by decide +kernel
theorem dX5_takeSegment_65 : decode cX5_takeSegment 65 = .ok (.ifCond .ne 10, 3) := by decide +kernel
theorem dX5_takeSegment_68 : decode cX5_takeSegment 68 = .ok (.aload_n 0, 1) := by decide +kernel
theorem dX5_takeSegment_69 : decode cX5_takeSegment 69 = .ok (.invokevirtual 388, 3) := by decide +kernel
theorem dX5_takeSegment_72 : decode cX5_takeSegment 72 = .ok (.goto 59, 3) := by decide +kernel
theorem dX5_takeSegment_75 : decode cX5_takeSegment 75 = .ok (.aload_n 0, 1) := by decide +kernel
theorem dX5_takeSegment_76 : decode cX5_takeSegment 76 = .ok (.getfield 49, 3) := by decide +kernel
theorem dX5_takeSegment_79 : decode cX5_takeSegment 79 = .ok (.iconst 4, 1) := by decide +kernel
theorem dX5_takeSegment_80 : decode cX5_takeSegment 80 = .ok (.invokevirtual 338, 3) := by decide +kernel
theorem dX5_takeSegment_83 : decode cX5_takeSegment 83 = .ok (.ifCond .eq 10, 3) := by decide +kernel
theorem dX5_takeSegment_86 : decode cX5_takeSegment 86 = .ok (.aload_n 0, 1) := by decide +kernel
theorem dX5_takeSegment_87 : decode cX5_takeSegment 87 = .ok (.invokevirtual 391, 3) := by decide +kernel
theorem dX5_takeSegment_90 : decode cX5_takeSegment 90 = .ok (.goto 41, 3) := by decide +kernel
theorem dX5_takeSegment_93 : decode cX5_takeSegment 93 = .ok (.aload_n 0, 1) := by decide +kernel
theorem dX5_takeSegment_94 : decode cX5_takeSegment 94 = .ok (.getfield 49, 3) := by decide +kernel
theorem dX5_takeSegment_97 : decode cX5_takeSegment 97 = .ok (.iconst 1, 1) := by decide +kernel
theorem dX5_takeSegment_98 : decode cX5_takeSegment 98 = .ok (.invokevirtual 338, 3) := by decide +kernel
theorem dX5_takeSegment_101 : decode cX5_takeSegment 101 = .ok (.ifCond .eq 14, 3) := by decide +kernel
theorem dX5_takeSegment_104 : decode cX5_takeSegment 104 = .ok (.aload_n 0, 1) := by decide +kernel
theorem dX5_takeSegment_105 : decode cX5_takeSegment 105 = .ok (.getfield 42, 3) := by decide +kernel
theorem dX5_takeSegment_108 : decode cX5_takeSegment 108 = .ok (.iconst 1, 1) := by decide +kernel
theorem dX5_takeSegment_109 : decode cX5_takeSegment 109 = .ok (.putfield 206, 3) := by decide +kernel
theorem dX5_takeSegment_112 : decode cX5_takeSegment 112 = .ok (.goto 19, 3) := by decide +kernel
theorem dX5_takeSegment_115 : decode cX5_takeSegment 115 = .ok (.aload_n 0, 1) := by decide +kernel
theorem dX5_takeSegment_116 : decode cX5_takeSegment 116 = .ok (.getfield 49, 3) := by decide +kernel
theorem dX5_takeSegment_119 : decode cX5_takeSegment 119 = .ok (.bipush 8, 2) := by decide +kernel
theorem dX5_takeSegment_121 : decode cX5_takeSegment 121 = .ok (.invokevirtual 338, 3) := by decide +kernel
theorem dX5_takeSegment_124 : decode cX5_takeSegment 124 = .ok (.ifCond .eq 7, 3) := by decide +kernel
theorem dX5_takeSegment_127 : decode cX5_takeSegment 127 = .ok (.aload_n 0, 1) := by decide +kernel
theorem dX5_takeSegment_128 : decode cX5_takeSegment 128 = .ok (.invokevirtual 394, 3) := by decide +kernel
theorem dX5_takeSegment_131 : decode cX5_takeSegment 131 = .ok (.return_, 1) := by decide +kernel
theorem dX5_arrive_0 : decode cX5_arrive 0 = .ok (.iload_n 1, 1) := by decide +kernel
theorem dX5_arrive_1 : decode cX5_arrive 1 = .ok (.ifCond .lt 25, 3) := by decide +kernel
theorem dX5_arrive_4 : decode cX5_arrive 4 = .ok (.iload_n 1, 1) := by decide +kernel
theorem dX5_arrive_5 : decode cX5_arrive 5 = .ok (.bipush 15, 2) := by decide +kernel
theorem dX5_arrive_7 : decode cX5_arrive 7 = .ok (.if_icmp .gt 19, 3) := by decide +kernel
theorem dX5_arrive_10 : decode cX5_arrive 10 = .ok (.iload 4, 2) := by decide +kernel
theorem dX5_arrive_12 : decode cX5_arrive 12 = .ok (.invokestatic 247, 3) := by decide +kernel
theorem dX5_arrive_15 : decode cX5_arrive 15 = .ok (.ifCond .eq 11, 3) := by decide +kernel
theorem dX5_arrive_18 : decode cX5_arrive 18 = .ok (.iload 5, 2) := by decide +kernel
theorem dX5_arrive_20 : decode cX5_arrive 20 = .ok (.invokestatic 247, 3) := by decide +kernel
theorem dX5_arrive_23 : decode cX5_arrive 23 = .ok (.ifCond .ne 13, 3) := by decide +kernel
theorem dX5_arrive_26 : decode cX5_arrive 26 = .ok (.new 88, 3) := by decide +kernel
theorem dX5_arrive_29 : decode cX5_arrive 29 = .ok (.dup, 1) := by decide +kernel
theorem dX5_arrive_30 : decode cX5_arrive 30 = .ok (.ldc 250, 2) := by decide +kernel
theorem dX5_arrive_32 : decode cX5_arrive 32 = .ok (.invokespecial 92, 3) := by decide +kernel
theorem dX5_arrive_35 : decode cX5_arrive 35 = .ok (.athrow, 1) := by decide +kernel
theorem dX5_arrive_36 : decode cX5_arrive 36 = .ok (.aload_n 0, 1) := by decide +kernel
theorem dX5_arrive_37 : decode cX5_arrive 37 = .ok (.getfield 49, 3) := by decide +kernel
theorem dX5_arrive_40 : decode cX5_arrive 40 = .ok (.iload_n 1, 1) := by decide +kernel
theorem dX5_arrive_41 : decode cX5_arrive 41 = .ok (.iload_n 2, 1) := by decide +kernel
theorem dX5_arrive_42 : decode cX5_arrive 42 = .ok (.iload_n 3, 1) := by decide +kernel
theorem dX5_arrive_43 : decode cX5_arrive 43 = .ok (.iload 4, 2) := by decide +kernel
theorem dX5_arrive_45 : decode cX5_arrive 45 = .ok (.iload 5, 2) := by decide +kernel
theorem dX5_arrive_47 : decode cX5_arrive 47 = .ok (.invokevirtual 252, 3) := by decide +kernel
theorem dX5_arrive_50 : decode cX5_arrive 50 = .ok (.aload_n 0, 1) := by decide +kernel
theorem dX5_arrive_51 : decode cX5_arrive 51 = .ok (.invokevirtual 256, 3) := by decide +kernel
theorem dX5_arrive_54 : decode cX5_arrive 54 = .ok (.aload_n 0, 1) := by decide +kernel
theorem dX5_arrive_55 : decode cX5_arrive 55 = .ok (.getfield 49, 3) := by decide +kernel
theorem dX5_arrive_58 : decode cX5_arrive 58 = .ok (.iconst 0, 1) := by decide +kernel
theorem dX5_arrive_59 : decode cX5_arrive 59 = .ok (.putfield 230, 3) := by decide +kernel
theorem dX5_arrive_62 : decode cX5_arrive 62 = .ok (.aload_n 0, 1) := by decide +kernel
theorem dX5_arrive_63 : decode cX5_arrive 63 = .ok (.invokevirtual 116, 3) := by decide +kernel
theorem dX5_arrive_66 : decode cX5_arrive 66 = .ok (.aload_n 0, 1) := by decide +kernel
theorem dX5_arrive_67 : decode cX5_arrive 67 = .ok (.getfield 60, 3) := by decide +kernel
theorem dX5_arrive_70 : decode cX5_arrive 70 = .ok (.ireturn, 1) := by decide +kernel
theorem dX5_state_0 : decode cX5_state 0 = .ok (.aload_n 0, 1) := by decide +kernel
theorem dX5_state_1 : decode cX5_state 1 = .ok (.getfield 60, 3) := by decide +kernel
theorem dX5_state_4 : decode cX5_state 4 = .ok (.ireturn, 1) := by decide +kernel
theorem dX5_figure_0 : decode cX5_figure 0 = .ok (.iload_n 1, 1) := by decide +kernel
theorem dX5_figure_1 : decode cX5_figure 1 = .ok (.tableswitch 171 0 12 #[67, 75, 83, 91, 99, 107, 115, 123, 131, 139, 147, 155, 163], 67) := by decide +kernel
theorem dX5_figure_68 : decode cX5_figure 68 = .ok (.aload_n 0, 1) := by decide +kernel
theorem dX5_figure_69 : decode cX5_figure 69 = .ok (.getfield 21, 3) := by decide +kernel
theorem dX5_figure_72 : decode cX5_figure 72 = .ok (.getfield 259, 3) := by decide +kernel
theorem dX5_figure_75 : decode cX5_figure 75 = .ok (.ireturn, 1) := by decide +kernel
theorem dX5_figure_76 : decode cX5_figure 76 = .ok (.aload_n 0, 1) := by decide +kernel
theorem dX5_figure_77 : decode cX5_figure 77 = .ok (.getfield 21, 3) := by decide +kernel
theorem dX5_figure_80 : decode cX5_figure 80 = .ok (.getfield 137, 3) := by decide +kernel
theorem dX5_figure_83 : decode cX5_figure 83 = .ok (.ireturn, 1) := by decide +kernel
theorem dX5_figure_84 : decode cX5_figure 84 = .ok (.aload_n 0, 1) := by decide +kernel
theorem dX5_figure_85 : decode cX5_figure 85 = .ok (.getfield 21, 3) := by decide +kernel
theorem dX5_figure_88 : decode cX5_figure 88 = .ok (.getfield 262, 3) := by decide +kernel
theorem dX5_figure_91 : decode cX5_figure 91 = .ok (.ireturn, 1) := by decide +kernel
theorem dX5_figure_92 : decode cX5_figure 92 = .ok (.aload_n 0, 1) := by decide +kernel
theorem dX5_figure_93 : decode cX5_figure 93 = .ok (.getfield 28, 3) := by decide +kernel
theorem dX5_figure_96 : decode cX5_figure 96 = .ok (.getfield 140, 3) := by decide +kernel
theorem dX5_figure_99 : decode cX5_figure 99 = .ok (.ireturn, 1) := by decide +kernel
theorem dX5_figure_100 : decode cX5_figure 100 = .ok (.aload_n 0, 1) := by decide +kernel
theorem dX5_figure_101 : decode cX5_figure 101 = .ok (.getfield 28, 3) := by decide +kernel
theorem dX5_figure_104 : decode cX5_figure 104 = .ok (.invokevirtual 263, 3) := by decide +kernel
theorem dX5_figure_107 : decode cX5_figure 107 = .ok (.ireturn, 1) := by decide +kernel
theorem dX5_figure_108 : decode cX5_figure 108 = .ok (.aload_n 0, 1) := by decide +kernel
theorem dX5_figure_109 : decode cX5_figure 109 = .ok (.getfield 35, 3) := by decide +kernel
theorem dX5_figure_112 : decode cX5_figure 112 = .ok (.getfield 266, 3) := by decide +kernel
theorem dX5_figure_115 : decode cX5_figure 115 = .ok (.ireturn, 1) := by decide +kernel
theorem dX5_figure_116 : decode cX5_figure 116 = .ok (.aload_n 0, 1) := by decide +kernel
theorem dX5_figure_117 : decode cX5_figure 117 = .ok (.getfield 21, 3) := by decide +kernel
theorem dX5_figure_120 : decode cX5_figure 120 = .ok (.getfield 269, 3) := by decide +kernel
theorem dX5_figure_123 : decode cX5_figure 123 = .ok (.ireturn, 1) := by decide +kernel
theorem dX5_figure_124 : decode cX5_figure 124 = .ok (.aload_n 0, 1) := by decide +kernel
theorem dX5_figure_125 : decode cX5_figure 125 = .ok (.getfield 28, 3) := by decide +kernel
theorem dX5_figure_128 : decode cX5_figure 128 = .ok (.getfield 119, 3) := by decide +kernel
theorem dX5_figure_131 : decode cX5_figure 131 = .ok (.ireturn, 1) := by decide +kernel
theorem dX5_figure_132 : decode cX5_figure 132 = .ok (.aload_n 0, 1) := by decide +kernel
theorem dX5_figure_133 : decode cX5_figure 133 = .ok (.getfield 35, 3) := by decide +kernel
theorem dX5_figure_136 : decode cX5_figure 136 = .ok (.getfield 270, 3) := by decide +kernel
theorem dX5_figure_139 : decode cX5_figure 139 = .ok (.ireturn, 1) := by decide +kernel
theorem dX5_figure_140 : decode cX5_figure 140 = .ok (.aload_n 0, 1) := by decide +kernel
theorem dX5_figure_141 : decode cX5_figure 141 = .ok (.getfield 21, 3) := by decide +kernel
theorem dX5_figure_144 : decode cX5_figure 144 = .ok (.getfield 273, 3) := by decide +kernel
theorem dX5_figure_147 : decode cX5_figure 147 = .ok (.ireturn, 1) := by decide +kernel
theorem dX5_figure_148 : decode cX5_figure 148 = .ok (.aload_n 0, 1) := by decide +kernel
theorem dX5_figure_149 : decode cX5_figure 149 = .ok (.getfield 35, 3) := by decide +kernel
theorem dX5_figure_152 : decode cX5_figure 152 = .ok (.getfield 276, 3) := by decide +kernel
theorem dX5_figure_155 : decode cX5_figure 155 = .ok (.ireturn, 1) := by decide +kernel
theorem dX5_figure_156 : decode cX5_figure 156 = .ok (.aload_n 0, 1) := by decide +kernel
theorem dX5_figure_157 : decode cX5_figure 157 = .ok (.getfield 35, 3) := by decide +kernel
theorem dX5_figure_160 : decode cX5_figure 160 = .ok (.getfield 279, 3) := by decide +kernel
theorem dX5_figure_163 : decode cX5_figure 163 = .ok (.ireturn, 1) := by decide +kernel
theorem dX5_figure_164 : decode cX5_figure 164 = .ok (.aload_n 0, 1) := by decide +kernel
theorem dX5_figure_165 : decode cX5_figure 165 = .ok (.getfield 35, 3) := by decide +kernel
theorem dX5_figure_168 : decode cX5_figure 168 = .ok (.invokevirtual 158, 3) := by decide +kernel
theorem dX5_figure_171 : decode cX5_figure 171 = .ok (.ireturn, 1) := by decide +kernel
theorem dX5_figure_172 : decode cX5_figure 172 = .ok (.new 88, 3) := by decide +kernel
theorem dX5_figure_175 : decode cX5_figure 175 = .ok (.dup, 1) := by decide +kernel
theorem dX5_figure_176 : decode cX5_figure 176 = .ok (.ldc_w 282, 3) := by decide +kernel
theorem dX5_figure_179 : decode cX5_figure 179 = .ok (.invokespecial 92, 3) := by decide +kernel
theorem dX5_figure_182 : decode cX5_figure 182 = .ok (.athrow, 1) := by decide +kernel
end
section
/-! written by program (wip/gen) -/
/-- S_isEnded -/
def F_S_isEnded (g : se_G)  : Int32 := (if (g 0 9) = 0 then 1 else (if (g 0 9) = 11 then 1 else 0))
/-- S_Outgoing_windowIs -/
def F_S_Outgoing_windowIs (g : se_G) (p1 : Int32) (p2 : Int32) (p3 : Int32) : se_G := (se_u (se_u (se_u g 1 10 p1) 1 11 p2) 1 12 p3)
/-- S_Outgoing_restart -/
def F_S_Outgoing_restart (g : se_G) (p1 : Int32) (p2 : Int32) : se_G := (F_S_Outgoing_windowIs (se_u (se_u (se_u (se_u (se_u (se_u (se_u (se_u (se_u g 1 1 0) 1 2 0) 1 3 0) 1 4 p1) 1 5 p1) 1 6 p1) 1 7 0) 1 8 0) 1 9 p2) 0 0 0)
/-- S_Arrays_fill -/
def F_S_Arrays_fill_j5 : Nat → se_G → Int32 → Int32 → Int32 → se_G
  | 0, gj5, _, _, _ => gj5
  | n + 1, gj5, v1_5, v2_5, v3_5 => (if v3_5 ≤ v2_5 then gj5 else (F_S_Arrays_fill_j5 n (se_u gj5 4 (Int32.toNatClampNeg v2_5) v1_5) v1_5 (v2_5 + 1) v3_5))
def F_S_Arrays_fill (g : se_G) (p1 : Int32) : se_G := (F_S_Arrays_fill_j5 ((((2048) : Int32).toInt - ((0) : Int32).toInt).toNat + 1) g p1 0 2048)
/-- S_Incoming_restart -/
def F_S_Incoming_restart (g : se_G)  : se_G := (se_u (se_u (se_u (se_u (se_u (se_u (se_u (F_S_Arrays_fill g (-1)) 3 1 0) 3 2 0) 3 3 0) 3 4 0) 3 5 0) 3 6 0) 3 7 0)
/-- S_Watch_restart -/
def F_S_Watch_restart (g : se_G)  : se_G := (se_u (se_u (se_u (se_u (se_u (se_u (se_u (se_u (se_u (se_u g 5 1 0) 5 2 0) 5 3 0) 5 4 60) 5 5 0) 5 6 0) 5 7 0) 5 8 0) 5 9 0) 5 10 0)
/-- S_Due_dropStream -/
def F_S_Due_dropStream (g : se_G)  : se_G := (se_u (se_u (se_u g 6 4 0) 6 6 0) 6 7 0)
/-- S_Due_restart -/
def F_S_Due_restart (g : se_G)  : se_G := (se_u (se_u (F_S_Due_dropStream g) 6 5 0) 6 8 0)
/-- S_openIsDue -/
def F_S_openIsDue (g : se_G)  : se_G := (se_u (se_u g 1 6 ((g 1 4) + 1)) 6 4 1)
/-- S_startStream -/
def F_S_startStream_k1 (p2 : Int32) (g4 : se_G) : se_G := (if p2 = 0 then (F_S_openIsDue (se_u (se_u g4 0 10 p2) 0 9 2)) else (se_u (se_u g4 0 10 p2) 0 9 1))
def F_S_startStream_k2 (p2 : Int32) (g3 : se_G) : se_G := (F_S_startStream_k1 p2 (F_S_Due_restart g3))
def F_S_startStream_k3 (p2 : Int32) (g2 : se_G) : se_G := (F_S_startStream_k2 p2 (F_S_Watch_restart g2))
def F_S_startStream_k4 (p2 : Int32) (g1 : se_G) : se_G := (F_S_startStream_k3 p2 (F_S_Incoming_restart g1))
def F_S_startStream (g : se_G) (p1 : Int32) (p2 : Int32) : se_G := (F_S_startStream_k4 p2 (F_S_Outgoing_restart g p1 (g 0 0)))
/-- S_begin -/
def F_S_begin (g : se_G) (p1 : Int32) (p2 : Int32) : Int32 × Int32 × se_G := (if (F_S_isEnded g) = 0 then (2, 0, g) else (0, 0, (F_S_startStream g p1 p2)))
/-- S_isHandful -/
def F_S_isHandful (p0 : Int32) : Int32 := (if p0 < 1 then 0 else (if 8 < p0 then 0 else 1))
/-- S_Outgoing_space -/
def F_S_Outgoing_space (g : se_G)  : Int32 := (2048 - (g 1 2))
/-- S_maySendNew -/
def F_S_maySendNew (g : se_G)  : Int32 := (if (g 0 9) = 4 then 1 else (if (g 0 9) = 5 then 1 else (if (g 0 9) = 7 then 1 else (if (g 0 9) = 8 then 1 else (if (g 0 9) = 9 then 1 else 0)))))
/-- S_Outgoing_hasUnthanked -/
def F_S_Outgoing_hasUnthanked (g : se_G)  : Int32 := (if (g 1 5) = (g 1 6) then 0 else 1)
/-- S_Outgoing_unsent -/
def F_S_Outgoing_unsent (g : se_G)  : Int32 := ((g 1 2) - (g 1 3))
/-- S_Outgoing_hasNew -/
def F_S_Outgoing_hasNew (g : se_G)  : Int32 := (if 0 < (F_S_Outgoing_unsent g) then 1 else (if (g 1 7) = 0 then 0 else (if (g 1 8) = 0 then 1 else 0)))
/-- S_Watch_setAlarm -/
def F_S_Watch_setAlarm (g : se_G)  : se_G := (se_u (se_u g 5 1 1) 5 2 ((g 5 0) + (g 5 4)))
/-- S_watchClosedWindow -/
def F_S_watchClosedWindow (g : se_G)  : se_G := (if (F_S_maySendNew g) = 0 then g else (if (g 5 1) = 0 then (if (F_S_Outgoing_hasUnthanked g) = 0 then (if (g 1 10) = 0 then (if (F_S_Outgoing_hasNew g) = 0 then g else (F_S_Watch_setAlarm g)) else g) else g) else g))
/-- S_byteOf -/
def F_S_byteOf (p0 : Int64) (p2 : Int32) (p3 : Int32) : Int32 := (Int8.toInt32 (Int32.toInt8 (Int64.toInt32 ((Int64.toUInt64 p0 >>> (Int64.toUInt64 (Int32.toInt64 (8 * ((p2 - 1) - p3))) &&& Int64.toUInt64 63)).toInt64))))
/-- S_Outgoing_append -/
def F_S_Outgoing_append (g : se_G) (p1 : Int32) : se_G := (se_u (se_u g 2 (Int32.toNatClampNeg (((g 1 1) + (g 1 2)) &&& 2047)) (vp_nar .byte p1)) 1 2 ((g 1 2) + 1))
/-- S_write -/
def F_S_write_j68 : Nat → se_G → Int64 → Int32 → Int32 → Int32 → Int32 × Int32 × se_G
  | 0, gj68, _, _, _, _ => (0, 0, gj68)
  | n + 1, gj68, v1_68, v3_68, v4_68, v5_68 => (if v4_68 ≤ v5_68 then (0, v4_68, (F_S_watchClosedWindow gj68)) else (F_S_write_j68 n (F_S_Outgoing_append gj68 (F_S_byteOf v1_68 v3_68 v5_68)) v1_68 v3_68 v4_68 (v5_68 + 1)))
def F_S_write (g : se_G) (p1 : Int64) (p3 : Int32) : Int32 × Int32 × se_G := (if (F_S_isHandful p3) = 0 then (1, 0, g) else (if (g 1 7) = 0 then (if (F_S_isEnded g) = 0 then (if (g 0 9) = 1 then (2, 0, g) else (F_S_write_j68 (((((if (F_S_Outgoing_space g) < p3 then (F_S_Outgoing_space g) else p3)) : Int32).toInt - ((0) : Int32).toInt).toNat + 1) g p1 p3 (if (F_S_Outgoing_space g) < p3 then (F_S_Outgoing_space g) else p3) 0)) else (2, 0, g)) else (2, 0, g)))
/-- S_Incoming_room -/
def F_S_Incoming_room (g : se_G)  : Int32 := (2048 - (g 3 3))
/-- S_Incoming_takeByte -/
def F_S_Incoming_takeByte (g : se_G)  : Int32 × se_G := ((g 4 (Int32.toNatClampNeg ((g 3 4) &&& 2047))), (se_u (se_u (se_u g 4 (Int32.toNatClampNeg ((g 3 4) &&& 2047)) (-1)) 3 4 ((g 3 4) + 1)) 3 3 ((g 3 3) - 1)))
/-- S_mayTakeBytes -/
def F_S_mayTakeBytes (g : se_G)  : Int32 := (if (g 0 9) = 4 then 1 else (if (g 0 9) = 5 then 1 else (if (g 0 9) = 6 then 1 else 0)))
/-- S_readByte -/
def F_S_readByte_k1 (g : se_G) (r1 : Int32) (g1 : se_G) : Int32 × se_G := (if ((if (if 1024 < (g 1 9) then 1024 else (g 1 9)) ≤ (F_S_Incoming_room g) then 0 else 1) : Int32) = 0 then (r1, g1) else (if (F_S_Incoming_room g1) < (if 1024 < (g 1 9) then 1024 else (g 1 9)) then (r1, g1) else (if (F_S_mayTakeBytes g1) = 0 then (r1, g1) else (r1, (se_u g1 6 8 1)))))
def F_S_readByte (g : se_G)  : Int32 × se_G := (F_S_readByte_k1 g (F_S_Incoming_takeByte g).1 (F_S_Incoming_takeByte g).2)
/-- S_read -/
def F_S_read (g : se_G)  : Int32 × Int32 × se_G := (if (g 3 3) ≤ 0 then (if (g 3 7) = 0 then (if (F_S_isEnded g) = 0 then (if (g 0 9) = 1 then (2, 0, g) else (0, (-1), g)) else (2, 0, g)) else (0, (-2), g)) else (0, (F_S_readByte g).1, (F_S_readByte g).2))
/-- S_beginQuiet -/
def F_S_beginQuiet (g : se_G)  : se_G := (se_u g 0 11 ((g 5 0) + (g 0 1)))
/-- S_halt -/
def F_S_halt_k1 (p1 : Int32) (g1 : se_G) : se_G := (if p1 = 10 then (F_S_beginQuiet g1) else (se_u g1 6 8 0))
def F_S_halt (g : se_G) (p1 : Int32) : se_G := (F_S_halt_k1 p1 (F_S_Due_dropStream (se_u (se_u g 0 9 p1) 5 1 0)))
/-- S_close -/
def F_S_close (g : se_G)  : Int32 × Int32 × se_G := (if (g 1 7) = 0 then (if (F_S_isEnded g) = 0 then (if (g 0 9) = 1 then (0, 0, (F_S_watchClosedWindow (F_S_halt (se_u g 1 7 1) 0))) else (if (g 0 9) = 2 then (0, 0, (F_S_watchClosedWindow (F_S_halt (se_u g 1 7 1) 0))) else (if (g 0 9) = 4 then (0, 0, (F_S_watchClosedWindow (se_u (se_u g 1 7 1) 0 9 5))) else (if (g 0 9) = 7 then (0, 0, (F_S_watchClosedWindow (se_u (se_u g 1 7 1) 0 9 9))) else (0, 0, (F_S_watchClosedWindow (se_u g 1 7 1))))))) else (2, 0, g)) else (2, 0, g))
/-- S_Due_resetIs -/
def F_S_Due_resetIs (g : se_G) (p1 : Int32) (p2 : Int32) (p3 : Int32) : se_G := (se_u (se_u (se_u (se_u g 6 0 1) 6 1 p1) 6 2 p2) 6 3 p3)
/-- S_abort -/
def F_S_abort (g : se_G)  : Int32 × Int32 × se_G := (if (F_S_isEnded g) = 0 then (if (g 0 9) = 1 then (0, 0, (F_S_halt g 11)) else (if (g 0 9) = 2 then (0, 0, (F_S_halt g 11)) else (if (g 0 9) = 10 then (0, 0, (F_S_halt g 11)) else (0, 0, (F_S_halt (F_S_Due_resetIs g 12 (g 1 6) (g 3 2)) 11))))) else (2, 0, g))
/-- S_Watch_ticksToAlarm -/
def F_S_Watch_ticksToAlarm (g : se_G)  : Int32 := (if (g 5 1) = 0 then 0 else ((g 5 2) - (g 5 0)))
/-- S_Watch_doubleWait -/
def F_S_Watch_doubleWait (g : se_G)  : se_G := (se_u g 5 4 (if 1200 < (2 * (g 5 4)) then 1200 else (2 * (g 5 4))))
/-- S_takeAlarm -/
def F_S_takeAlarm_j48 (gj48 : se_G) : se_G := (F_S_Watch_setAlarm (F_S_Watch_doubleWait (se_u gj48 6 4 1)))
def F_S_takeAlarm (g : se_G)  : se_G := (if ((g 5 3) + 1) ≤ 8 then (if (g 0 9) = 2 then (F_S_takeAlarm_j48 (se_u g 5 3 ((g 5 3) + 1))) else (if (g 0 9) = 3 then (F_S_takeAlarm_j48 (se_u g 5 3 ((g 5 3) + 1))) else (if (F_S_Outgoing_hasUnthanked (se_u g 5 3 ((g 5 3) + 1))) = 0 then (F_S_Watch_setAlarm (F_S_Watch_doubleWait (se_u (se_u g 5 3 ((g 5 3) + 1)) 6 7 1))) else (F_S_Watch_setAlarm (F_S_Watch_doubleWait (se_u (se_u g 5 3 ((g 5 3) + 1)) 6 6 1)))))) else (F_S_halt (se_u g 5 3 ((g 5 3) + 1)) 11))
/-- S_takeEvents -/
def F_S_takeEvents_j28 (gj28 : se_G) : se_G := (if (gj28 5 1) = 0 then gj28 else (if (gj28 5 0) < (gj28 5 2) then gj28 else (F_S_takeAlarm gj28)))
def F_S_takeEvents (g : se_G)  : se_G := (if (g 0 9) = 10 then (if (g 5 0) < (g 0 11) then (F_S_takeEvents_j28 g) else (F_S_takeEvents_j28 (F_S_halt g 0))) else (F_S_takeEvents_j28 g))
/-- S_run -/
def F_S_run_j48 : Nat → se_G → Int32 → Int32 × Int32 × se_G
  | 0, gj48, _ => (0, 0, gj48)
  | n + 1, gj48, v2_48 => (if v2_48 ≤ 0 then (0, (gj48 5 0), gj48) else (F_S_run_j48 n (F_S_takeEvents (se_u gj48 5 0 ((gj48 5 0) + ((if (gj48 5 1) = 0 then v2_48 else (if 1 < (if (F_S_Watch_ticksToAlarm gj48) < v2_48 then (F_S_Watch_ticksToAlarm gj48) else v2_48) then (if (F_S_Watch_ticksToAlarm gj48) < v2_48 then (F_S_Watch_ticksToAlarm gj48) else v2_48) else 1)) : Int32)))) (v2_48 - ((if (gj48 5 1) = 0 then v2_48 else (if 1 < (if (F_S_Watch_ticksToAlarm gj48) < v2_48 then (F_S_Watch_ticksToAlarm gj48) else v2_48) then (if (F_S_Watch_ticksToAlarm gj48) < v2_48 then (F_S_Watch_ticksToAlarm gj48) else v2_48) else 1)) : Int32))))
def F_S_run (g : se_G) (p1 : Int32) : Int32 × Int32 × se_G := (if p1 < 1 then (1, 0, g) else (if p1 ≤ 2000 then (if p1 ≤ (1000000 - (g 5 0)) then (F_S_run_j48 (((p1) : Int32).toInt.toNat + 1) g p1) else (2, 0, g)) else (1, 0, g)))
/-- S_Segment_headIs_9 -/
def F_S_Segment_headIs_9 (g : se_G) (p1 : Int32) (p2 : Int32) (p3 : Int32) (p4 : Int32) (p5 : Int32) : se_G := (se_u (se_u (se_u (se_u (se_u g 9 2 p1) 9 3 p2) 9 4 p3) 9 5 p4) 9 6 p5)
/-- S_Segment_append_9 -/
def F_S_Segment_append_9 (g : se_G) (p1 : Int32) : se_G := (if (g 9 1) < 0 then g else (if 1460 ≤ (g 9 1) then g else (se_u (se_u g 10 (Int32.toNatClampNeg (g 9 1)) (vp_nar .byte p1)) 9 1 ((g 9 1) + 1))))
/-- S_Outgoing_copyTo -/
def F_S_Outgoing_copyTo_j8 : Nat → se_G → Int32 → Int32 → Int32 → se_G
  | 0, gj8, _, _, _ => gj8
  | n + 1, gj8, v2_8, v3_8, v4_8 => (if v3_8 ≤ v4_8 then gj8 else (F_S_Outgoing_copyTo_j8 n (F_S_Segment_append_9 gj8 (gj8 2 (Int32.toNatClampNeg ((((gj8 1 1) + v2_8) + v4_8) &&& 2047)))) v2_8 v3_8 (v4_8 + 1)))
def F_S_Outgoing_copyTo (g : se_G) (p2 : Int32) (p3 : Int32) : se_G := (F_S_Outgoing_copyTo_j8 ((((p3) : Int32).toInt - ((0) : Int32).toInt).toNat + 1) (se_u g 9 1 0) p2 p3 0)
/-- S_make -/
def F_S_make_k1 (g2 : se_G) : se_G := (if (g2 3 1) = 0 then g2 else (se_u g2 6 8 0))
def F_S_make_k2 (g1 : se_G) (p3 : Int32) (p4 : Int32) : se_G := (F_S_make_k1 (F_S_Outgoing_copyTo g1 p3 p4))
def F_S_make (g : se_G) (p1 : Int32) (p2 : Int32) (p3 : Int32) (p4 : Int32) : se_G := (F_S_make_k2 (F_S_Segment_headIs_9 g (p1 ||| ((if (g 3 1) = 0 then 0 else 8) : Int32)) p2 (g 3 2) (F_S_Incoming_room g) ((if (p1 &&& 1) = 0 then 0 else (g 0 0)) : Int32)) p3 p4)
/-- S_Outgoing_wasSent -/
def F_S_Outgoing_wasSent (g : se_G) (p1 : Int32) (p2 : Int32) : se_G := (if p2 = 0 then (se_u (se_u g 1 3 ((g 1 3) + p1)) 1 6 ((g 1 6) + p1)) else (se_u (se_u (se_u (se_u g 1 3 ((g 1 3) + p1)) 1 6 ((g 1 6) + p1)) 1 8 1) 1 6 (((g 1 6) + p1) + 1)))
/-- S_Watch_measure -/
def F_S_Watch_measure (g : se_G) (p1 : Int32) : se_G := (if (g 5 8) = 0 then (se_u (se_u (se_u g 5 8 1) 5 9 p1) 5 10 (g 5 0)) else g)
/-- S_Watch_setAlarmIfOff -/
def F_S_Watch_setAlarmIfOff (g : se_G)  : se_G := (if (g 5 1) = 0 then (F_S_Watch_setAlarm g) else g)
/-- S_makeNew -/
def F_S_makeNew_k1 (g2 : se_G) : se_G := (F_S_Watch_setAlarmIfOff (F_S_Watch_measure g2 (g2 1 6)))
def F_S_makeNew (g : se_G) (p1 : Int32) (p2 : Int32) : se_G := (F_S_makeNew_k1 (F_S_Outgoing_wasSent (F_S_make (se_u g 6 7 0) ((if p2 = 0 then 0 else 2) : Int32) (g 1 6) (g 1 3) p1) p1 p2))
/-- S_makeProbe -/
def F_S_makeProbe (g : se_G)  : se_G := (F_S_makeNew g ((if ((if (F_S_Outgoing_unsent g) = 0 then 1 else 0) : Int32) = 0 then 1 else 0) : Int32) ((if (F_S_Outgoing_unsent g) = 0 then 1 else 0) : Int32))
/-- S_Outgoing_allowed -/
def F_S_Outgoing_allowed (g : se_G)  : Int32 := ((g 1 10) - ((g 1 6) - (g 1 5)))
/-- S_Outgoing_newBytes -/
def F_S_Outgoing_newBytes (g : se_G)  : Int32 := (if 0 < (if (if (F_S_Outgoing_allowed g) < (g 1 9) then (F_S_Outgoing_allowed g) else (g 1 9)) < (F_S_Outgoing_unsent g) then (if (F_S_Outgoing_allowed g) < (g 1 9) then (F_S_Outgoing_allowed g) else (g 1 9)) else (F_S_Outgoing_unsent g)) then (if (if (F_S_Outgoing_allowed g) < (g 1 9) then (F_S_Outgoing_allowed g) else (g 1 9)) < (F_S_Outgoing_unsent g) then (if (F_S_Outgoing_allowed g) < (g 1 9) then (F_S_Outgoing_allowed g) else (g 1 9)) else (F_S_Outgoing_unsent g)) else 0)
/-- S_Outgoing_newHasLast -/
def F_S_Outgoing_newHasLast (g : se_G)  : Int32 := (if (g 1 7) = 0 then 0 else (if (g 1 8) = 0 then (if (F_S_Outgoing_newBytes g) = (F_S_Outgoing_unsent g) then (if (F_S_Outgoing_allowed g) ≤ (F_S_Outgoing_newBytes g) then 0 else 1) else 0) else 0))
/-- S_Outgoing_maySend -/
def F_S_Outgoing_maySend (g : se_G)  : Int32 := (if 0 < (F_S_Outgoing_newBytes g) then 1 else (if (F_S_Outgoing_newHasLast g) = 0 then 0 else 1))
/-- S_makeAgain -/
def F_S_makeAgain (g : se_G)  : se_G := (se_u (F_S_make (se_u g 6 6 0) ((if ((if (g 1 8) = 0 then 0 else ((if (if (g 1 9) < (g 1 3) then (g 1 9) else (g 1 3)) = (g 1 3) then 1 else 0) : Int32)) : Int32) = 0 then 0 else 2) : Int32) (g 1 5) 0 (if (g 1 9) < (g 1 3) then (g 1 9) else (g 1 3))) 5 8 0)
/-- S_makeOpen -/
def F_S_makeOpen_k1 (g1 : se_G) : se_G := (if (g1 6 5) = 0 then (F_S_Watch_setAlarmIfOff (F_S_Watch_measure (se_u g1 6 5 1) (g1 1 6))) else (F_S_Watch_setAlarmIfOff (se_u g1 5 8 0)))
def F_S_makeOpen (g : se_G)  : se_G := (F_S_makeOpen_k1 (F_S_make (se_u g 6 4 0) 1 (g 1 4) 0 0))
/-- S_Segment_has_9 -/
def F_S_Segment_has_9 (g : se_G) (p1 : Int32) : Int32 := (if ((g 9 2) &&& p1) = 0 then 0 else 1)
/-- S_makeReset -/
def F_S_makeReset_k1 (g1 : se_G) : se_G := (if (F_S_Segment_has_9 (se_u g1 9 1 0) 8) = 0 then (se_u g1 9 1 0) else (se_u (se_u g1 9 1 0) 6 8 0))
def F_S_makeReset (g : se_G)  : se_G := (F_S_makeReset_k1 (F_S_Segment_headIs_9 (se_u g 6 0 0) (g 6 1) (g 6 2) (g 6 3) 0 0))
/-- S_next -/
def F_S_next_j89 (gj89 : se_G) : Int32 × se_G := (if (gj89 6 7) = 0 then (if (gj89 6 8) = 0 then (0, gj89) else (1, (se_u (F_S_make gj89 0 (gj89 1 6) 0 0) 0 8 1))) else (1, (se_u (F_S_makeProbe gj89) 0 8 1)))
def F_S_next (g : se_G)  : Int32 × se_G := (if (g 6 0) = 0 then (if (g 6 4) = 0 then (if (g 6 6) = 0 then (if (F_S_maySendNew g) = 0 then (F_S_next_j89 g) else (if (F_S_Outgoing_maySend g) = 0 then (F_S_next_j89 g) else (1, (se_u (F_S_makeNew g (F_S_Outgoing_newBytes g) (F_S_Outgoing_newHasLast g)) 0 8 1)))) else (1, (se_u (F_S_makeAgain g) 0 8 1))) else (1, (se_u (F_S_makeOpen g) 0 8 1))) else (1, (se_u (F_S_makeReset g) 0 8 1)))
/-- S_segment -/
def F_S_segment (g : se_G) (p1 : Int32) : Int32 × Int32 × se_G := (if p1 < 0 then (1, 0, g) else (if p1 ≤ 5 then (if (g 0 8) = 0 then (2, 0, g) else (if p1 = 0 then (0, (g 9 2), g) else (if p1 = 1 then (0, (g 9 3), g) else (if p1 = 2 then (0, (g 9 4), g) else (if p1 = 3 then (0, (g 9 5), g) else (if p1 = 4 then (0, (g 9 6), g) else (0, (g 9 1), g))))))) else (1, 0, g)))
/-- S_byteAt -/
def F_S_byteAt (g : se_G) (p1 : Int32) : Int32 × Int32 × se_G := (if (g 0 8) = 0 then (2, 0, g) else (if p1 < 0 then (3, 0, g) else (if p1 < (g 9 1) then (0, ((g 10 (Int32.toNatClampNeg p1)) &&& 255), g) else (3, 0, g))))
/-- S_Segment_append_7 -/
def F_S_Segment_append_7 (g : se_G) (p1 : Int32) : se_G := (if (g 7 1) < 0 then g else (if 1460 ≤ (g 7 1) then g else (se_u (se_u g 8 (Int32.toNatClampNeg (g 7 1)) (vp_nar .byte p1)) 7 1 ((g 7 1) + 1))))
/-- S_feed -/
def F_S_feed_j45 : Nat → se_G → Int64 → Int32 → Int32 → Int32 × Int32 × se_G
  | 0, gj45, _, _, _ => (0, 0, gj45)
  | n + 1, gj45, v1_45, v3_45, v4_45 => (if v3_45 ≤ v4_45 then (0, (gj45 7 1), gj45) else (F_S_feed_j45 n (F_S_Segment_append_7 gj45 (F_S_byteOf v1_45 v3_45 v4_45)) v1_45 v3_45 (v4_45 + 1)))
def F_S_feed (g : se_G) (p1 : Int64) (p3 : Int32) : Int32 × Int32 × se_G := (if (F_S_isHandful p3) = 0 then (1, 0, g) else (if p3 ≤ (1460 - (g 7 1)) then (F_S_feed_j45 ((((p3) : Int32).toInt - ((0) : Int32).toInt).toNat + 1) g p1 p3 0) else (2, 0, g)))
/-- S_isWidth -/
def F_S_isWidth (p0 : Int32) : Int32 := (if p0 < 0 then 0 else (if 65535 < p0 then 0 else 1))
/-- S_Segment_headIs_7 -/
def F_S_Segment_headIs_7 (g : se_G) (p1 : Int32) (p2 : Int32) (p3 : Int32) (p4 : Int32) (p5 : Int32) : se_G := (se_u (se_u (se_u (se_u (se_u g 7 2 p1) 7 3 p2) 7 4 p3) 7 5 p4) 7 6 p5)
/-- S_Segment_has_7 -/
def F_S_Segment_has_7 (g : se_G) (p1 : Int32) : Int32 := (if ((g 7 2) &&& p1) = 0 then 0 else 1)
/-- S_Segment_size_7 -/
def F_S_Segment_size_7 (g : se_G)  : Int32 := (((g 7 1) + ((if (F_S_Segment_has_7 g 1) = 0 then 0 else 1) : Int32)) + ((if (F_S_Segment_has_7 g 2) = 0 then 0 else 1) : Int32))
/-- S_Incoming_fits -/
def F_S_Incoming_fits (g : se_G) (p1 : Int32) (p2 : Int32) : Int32 := (if p2 = 0 then (if (p1 - (g 3 2)) = 0 then 1 else (if (p1 - (g 3 2)) ≤ 0 then 0 else (if (F_S_Incoming_room g) ≤ (p1 - (g 3 2)) then 0 else 1))) else (if (F_S_Incoming_room g) ≤ 0 then 0 else (if (p1 - (g 3 2)) ≤ (-p2) then 0 else (if (F_S_Incoming_room g) ≤ (p1 - (g 3 2)) then 0 else 1))))
/-- S_isBefore -/
def F_S_isBefore (p0 : Int32) (p1 : Int32) : Int32 := (if (p1 - p0) ≤ 0 then 0 else 1)
/-- S_isNotBehind -/
def F_S_isNotBehind (p0 : Int32) (p1 : Int32) : Int32 := (if (p1 - p0) < 0 then 0 else 1)
/-- S_Outgoing_windowIsOlderThan -/
def F_S_Outgoing_windowIsOlderThan (g : se_G)  : Int32 := (if (F_S_isBefore (g 1 11) (g 7 3)) = 0 then (if (g 1 11) = (g 7 3) then (if (F_S_isNotBehind (g 1 12) (g 7 4)) = 0 then 0 else 1) else 0) else 1)
/-- S_takeWindow -/
def F_S_takeWindow_j119 (gj119 : se_G) (v1_119 : Int32) : se_G := (if v1_119 = 0 then (if (gj119 7 5) = 0 then (se_u gj119 5 3 0) else gj119) else (se_u gj119 5 3 0))
def F_S_takeWindow_k1 (g : se_G) (g1 : se_G) : se_G := (if ((if (g 1 10) = 0 then ((if (g 7 5) = 0 then 0 else 1) : Int32) else 0) : Int32) = 0 then (F_S_takeWindow_j119 g1 ((if (g 1 10) = 0 then ((if (g 7 5) = 0 then 0 else 1) : Int32) else 0) : Int32)) else (if (F_S_Outgoing_hasUnthanked (se_u g1 6 7 0)) = 0 then (F_S_takeWindow_j119 (se_u (se_u g1 6 7 0) 5 1 0) ((if (g 1 10) = 0 then ((if (g 7 5) = 0 then 0 else 1) : Int32) else 0) : Int32)) else (F_S_takeWindow_j119 (se_u g1 6 7 0) ((if (g 1 10) = 0 then ((if (g 7 5) = 0 then 0 else 1) : Int32) else 0) : Int32))))
def F_S_takeWindow (g : se_G)  : se_G := (if (F_S_isBefore (g 7 4) (g 1 5)) = 0 then (if (F_S_Outgoing_windowIsOlderThan g) = 0 then g else (F_S_takeWindow_k1 g (F_S_Outgoing_windowIs g (g 7 5) (g 7 3) (g 7 4)))) else g)
/-- S_Outgoing_lastIsThanked -/
def F_S_Outgoing_lastIsThanked (g : se_G)  : Int32 := (if (g 1 8) = 0 then 0 else (if (F_S_Outgoing_hasUnthanked g) = 0 then 1 else 0))
/-- S_Incoming_store -/
def F_S_Incoming_store_j35 : Nat → se_G → Int32 → Int32 → se_G
  | 0, gj35, _, _ => gj35
  | n + 1, gj35, v4_35, v5_35 => (if v4_35 ≤ v5_35 then gj35 else (if (gj35 4 (Int32.toNatClampNeg (((gj35 7 3) + v5_35) &&& 2047))) = (-1) then (F_S_Incoming_store_j35 n (se_u gj35 4 (Int32.toNatClampNeg (((gj35 7 3) + v5_35) &&& 2047)) ((gj35 8 (Int32.toNatClampNeg v5_35)) &&& 255)) v4_35 (v5_35 + 1)) else (F_S_Incoming_store_j35 n gj35 v4_35 (v5_35 + 1))))
def F_S_Incoming_store (g : se_G)  : se_G := (F_S_Incoming_store_j35 (((((if ((F_S_Incoming_room g) - ((g 7 3) - (g 3 2))) < (g 7 1) then ((F_S_Incoming_room g) - ((g 7 3) - (g 3 2))) else (g 7 1))) : Int32).toInt - (((if 0 < (-((g 7 3) - (g 3 2))) then (-((g 7 3) - (g 3 2))) else 0)) : Int32).toInt).toNat + 1) g (if ((F_S_Incoming_room g) - ((g 7 3) - (g 3 2))) < (g 7 1) then ((F_S_Incoming_room g) - ((g 7 3) - (g 3 2))) else (g 7 1)) (if 0 < (-((g 7 3) - (g 3 2))) then (-((g 7 3) - (g 3 2))) else 0))
/-- S_Incoming_isAtLast -/
def F_S_Incoming_isAtLast (g : se_G)  : Int32 := (if (g 3 5) = 0 then 0 else (if (g 3 2) = (g 3 6) then 1 else 0))
/-- S_Incoming_goOn -/
def F_S_Incoming_goOn_j57 (gj57 : se_G) : se_G := (if (F_S_Incoming_isAtLast gj57) = 0 then gj57 else (se_u (se_u gj57 3 2 ((gj57 3 2) + 1)) 3 7 1))
def F_S_Incoming_goOn_j0 : Nat → se_G → se_G
  | 0, gj0 => gj0
  | n + 1, gj0 => (if 2048 ≤ (gj0 3 3) then (F_S_Incoming_goOn_j57 gj0) else (if (F_S_Incoming_isAtLast gj0) = 0 then (if (gj0 4 (Int32.toNatClampNeg ((gj0 3 2) &&& 2047))) = (-1) then (F_S_Incoming_goOn_j57 gj0) else (F_S_Incoming_goOn_j0 n (se_u (se_u gj0 3 2 ((gj0 3 2) + 1)) 3 3 ((gj0 3 3) + 1)))) else (F_S_Incoming_goOn_j57 gj0)))
def F_S_Incoming_goOn (g : se_G)  : se_G := (F_S_Incoming_goOn_j0 (((2048 : Int32).toInt - (g 3 3).toInt).toNat + 1) g)
/-- S_peerLeaves -/
def F_S_peerLeaves (g : se_G)  : se_G := (if (g 0 9) = 4 then (se_u g 0 9 7) else (if (g 0 9) = 5 then (se_u g 0 9 8) else (F_S_halt g 10)))
/-- S_Incoming_noteLast -/
def F_S_Incoming_noteLast (g : se_G) (p1 : Int32) : se_G := (if (g 3 5) = 0 then (if (p1 - (g 3 2)) < 0 then g else (if (F_S_Incoming_room g) ≤ (p1 - (g 3 2)) then g else (se_u (se_u g 3 5 1) 3 6 p1))) else g)
/-- S_takeBytes -/
def F_S_takeBytes_j74 (gj74 : se_G) (v1_74 : Int32) : se_G := (if v1_74 = 0 then (if (gj74 7 1) ≤ 0 then gj74 else (se_u gj74 6 8 1)) else (se_u gj74 6 8 1))
def F_S_takeBytes_k1 (g2 : se_G) (v1_53 : Int32) : se_G := (if (g2 3 7) = 0 then (F_S_takeBytes_j74 g2 v1_53) else (F_S_takeBytes_j74 (F_S_peerLeaves g2) v1_53))
def F_S_takeBytes_j53 (gj53 : se_G) (v1_53 : Int32) : se_G := (F_S_takeBytes_k1 (F_S_Incoming_goOn gj53) v1_53)
def F_S_takeBytes_k2 (g : se_G) (g1 : se_G) : se_G := (if (F_S_Segment_has_7 g 2) = 0 then (F_S_takeBytes_j53 g1 (F_S_Segment_has_7 g 2)) else (F_S_takeBytes_j53 (F_S_Incoming_noteLast g1 ((g1 7 3) + (g1 7 1))) (F_S_Segment_has_7 g 2)))
def F_S_takeBytes (g : se_G)  : se_G := (if (F_S_mayTakeBytes g) = 0 then (F_S_takeBytes_j74 g (F_S_Segment_has_7 g 2)) else (F_S_takeBytes_k2 g (F_S_Incoming_store g)))
/-- S_leave -/
def F_S_leave (g : se_G)  : se_G := (if (g 0 9) = 5 then (se_u g 0 9 6) else (if (g 0 9) = 8 then (F_S_halt g 10) else (if (g 0 9) = 9 then (F_S_halt g 0) else g)))
/-- S_Outgoing_thank -/
def F_S_Outgoing_thank (g : se_G) (p1 : Int32) : se_G := (se_u (se_u (se_u (se_u g 1 1 (((g 1 1) + (if (p1 - (g 1 5)) < (g 1 3) then (p1 - (g 1 5)) else (g 1 3))) &&& 2047)) 1 2 ((g 1 2) - (if (p1 - (g 1 5)) < (g 1 3) then (p1 - (g 1 5)) else (g 1 3)))) 1 3 ((g 1 3) - (if (p1 - (g 1 5)) < (g 1 3) then (p1 - (g 1 5)) else (g 1 3)))) 1 5 p1)
/-- S_Watch_learn -/
def F_S_Watch_learn_j70 (gj70 : se_G) : se_G := (se_u gj70 5 4 (if 20 < (if 1200 < (((gj70 5 6) / 8) + (if (gj70 5 7) < 1 then 1 else (gj70 5 7))) then 1200 else (((gj70 5 6) / 8) + (if (gj70 5 7) < 1 then 1 else (gj70 5 7)))) then (if 1200 < (((gj70 5 6) / 8) + (if (gj70 5 7) < 1 then 1 else (gj70 5 7))) then 1200 else (((gj70 5 6) / 8) + (if (gj70 5 7) < 1 then 1 else (gj70 5 7)))) else 20))
def F_S_Watch_learn (g : se_G) (p1 : Int32) : se_G := (if (g 5 5) = 0 then (F_S_Watch_learn_j70 (se_u (se_u (se_u g 5 5 1) 5 6 (8 * p1)) 5 7 (2 * p1))) else (F_S_Watch_learn_j70 (se_u (se_u g 5 6 ((g 5 6) + (p1 - ((g 5 6) / 8)))) 5 7 ((g 5 7) + ((if 0 ≤ (p1 - ((g 5 6) / 8)) then (p1 - ((g 5 6) / 8)) else 0 - (p1 - ((g 5 6) / 8))) - ((g 5 7) / 4))))))
/-- S_Watch_endMeasure -/
def F_S_Watch_endMeasure (g : se_G) (p1 : Int32) : se_G := (if (g 5 8) = 0 then g else (if (F_S_isNotBehind (g 5 9) p1) = 0 then g else (F_S_Watch_learn (se_u g 5 8 0) ((g 5 0) - (g 5 10)))))
/-- S_takeThanked -/
def F_S_takeThanked_k1 (g2 : se_G) : se_G := (if (F_S_Outgoing_hasUnthanked (se_u (se_u g2 5 3 0) 5 1 0)) = 0 then (se_u (se_u (se_u g2 5 3 0) 5 1 0) 6 6 0) else (se_u (F_S_Watch_setAlarm (se_u (se_u g2 5 3 0) 5 1 0)) 6 6 0))
def F_S_takeThanked_k2 (g1 : se_G) : se_G := (F_S_takeThanked_k1 (F_S_Watch_endMeasure g1 (g1 7 4)))
def F_S_takeThanked (g : se_G)  : se_G := (F_S_takeThanked_k2 (F_S_Outgoing_thank g (g 7 4)))
/-- S_answerWithReset -/
def F_S_answerWithReset (g : se_G)  : se_G := (if (F_S_Segment_has_7 g 4) = 0 then (if (F_S_Segment_has_7 g 8) = 0 then (F_S_Due_resetIs g 12 0 ((g 7 3) + (F_S_Segment_size_7 g))) else (F_S_Due_resetIs g 4 (g 7 4) 0)) else g)
/-- S_takeInStream -/
def F_S_takeInStream_k1 (g3 : se_G) : se_G := (if (g3 0 9) = 0 then g3 else (F_S_takeBytes g3))
def F_S_takeInStream_k2 (g1 : se_G) : se_G := (if (F_S_Outgoing_lastIsThanked g1) = 0 then (if (g1 0 9) = 0 then g1 else (F_S_takeBytes g1)) else (F_S_takeInStream_k1 (F_S_leave g1)))
def F_S_takeInStream_j113 (gj113 : se_G) : se_G := (F_S_takeInStream_k2 (F_S_takeWindow gj113))
def F_S_takeInStream_j89 (gj89 : se_G) : se_G := (if (F_S_isBefore (gj89 1 5) (gj89 7 4)) = 0 then (F_S_takeInStream_j113 gj89) else (F_S_takeInStream_j113 (F_S_takeThanked gj89)))
def F_S_takeInStream (g : se_G)  : se_G := (if (g 0 9) = 3 then (if (g 7 4) = (g 1 6) then (F_S_takeInStream_j89 (se_u (se_u g 0 9 ((if (g 1 7) = 0 then 4 else 5) : Int32)) 6 4 0)) else (F_S_answerWithReset g)) else (if (F_S_isBefore (g 1 6) (g 7 4)) = 0 then (F_S_takeInStream_j89 g) else (se_u g 6 8 1)))
/-- S_takeReset -/
def F_S_takeReset_j58 (gj58 : se_G) : se_G := (if (gj58 0 9) = 8 then (F_S_halt gj58 0) else (if (gj58 0 9) = 9 then (F_S_halt gj58 0) else (if (gj58 0 9) = 10 then (F_S_halt gj58 0) else (F_S_halt gj58 11))))
def F_S_takeReset (g : se_G)  : se_G := (if (g 7 3) = (g 3 2) then (if (g 0 9) = 3 then (if (g 0 10) = 0 then (F_S_takeReset_j58 g) else (F_S_startStream g (g 1 4) 1)) else (F_S_takeReset_j58 g)) else (se_u g 6 8 1))
/-- S_takeMisfit -/
def F_S_takeMisfit_j19 (gj19 : se_G) : se_G := (if (gj19 0 9) = 10 then (if (F_S_Segment_has_7 gj19 2) = 0 then gj19 else (F_S_beginQuiet gj19)) else gj19)
def F_S_takeMisfit (g : se_G)  : se_G := (if (F_S_Segment_has_7 g 4) = 0 then (F_S_takeMisfit_j19 (se_u g 6 8 1)) else (F_S_takeMisfit_j19 g))
/-- S_Incoming_open -/
def F_S_Incoming_open (g : se_G) (p1 : Int32) : se_G := (se_u (se_u (se_u g 3 1 1) 3 2 p1) 3 4 p1)
/-- S_takeOpen -/
def F_S_takeOpen_k1 (g1 : se_G) : se_G := (F_S_Outgoing_windowIs (se_u g1 1 9 (if ((if (g1 7 6) = 0 then 536 else (g1 7 6)) : Int32) < (g1 0 0) then ((if (g1 7 6) = 0 then 536 else (g1 7 6)) : Int32) else (g1 0 0))) (g1 7 5) (g1 7 3) ((if (F_S_Segment_has_7 (se_u g1 1 9 (if ((if (g1 7 6) = 0 then 536 else (g1 7 6)) : Int32) < (g1 0 0) then ((if (g1 7 6) = 0 then 536 else (g1 7 6)) : Int32) else (g1 0 0))) 8) = 0 then (g1 1 4) else (g1 7 4)) : Int32))
def F_S_takeOpen (g : se_G)  : se_G := (F_S_takeOpen_k1 (F_S_Incoming_open g ((g 7 3) + 1)))
/-- S_takeWhenAsking -/
def F_S_takeWhenAsking_k1 (v1_38 : Int32) (g1 : se_G) : se_G := (if v1_38 = 0 then (se_u (se_u g1 0 9 3) 6 4 1) else (se_u (F_S_takeThanked (se_u (se_u g1 0 9 4) 6 4 0)) 6 8 1))
def F_S_takeWhenAsking_j38 (gj38 : se_G) (v1_38 : Int32) : se_G := (if (F_S_Segment_has_7 gj38 4) = 0 then (if (F_S_Segment_has_7 gj38 1) = 0 then gj38 else (F_S_takeWhenAsking_k1 v1_38 (F_S_takeOpen gj38))) else (if v1_38 = 0 then gj38 else (F_S_halt gj38 11)))
def F_S_takeWhenAsking (g : se_G)  : se_G := (if (F_S_Segment_has_7 g 8) = 0 then (F_S_takeWhenAsking_j38 g (F_S_Segment_has_7 g 8)) else (if (g 7 4) = (g 1 6) then (F_S_takeWhenAsking_j38 g (F_S_Segment_has_7 g 8)) else (F_S_answerWithReset g)))
/-- S_takeWhenListening -/
def F_S_takeWhenListening (g : se_G)  : se_G := (if (F_S_Segment_has_7 g 4) = 0 then (if (F_S_Segment_has_7 g 8) = 0 then (if (F_S_Segment_has_7 g 1) = 0 then g else (F_S_openIsDue (se_u (F_S_takeOpen g) 0 9 3))) else (F_S_answerWithReset g)) else g)
/-- S_takeSegment -/
def F_S_takeSegment (g : se_G)  : se_G := (if (F_S_isEnded g) = 0 then (if (g 0 9) = 1 then (F_S_takeWhenListening g) else (if (g 0 9) = 2 then (F_S_takeWhenAsking g) else (if (F_S_Incoming_fits g (g 7 3) (F_S_Segment_size_7 g)) = 0 then (F_S_takeMisfit g) else (if (F_S_Segment_has_7 g 4) = 0 then (if (F_S_Segment_has_7 g 1) = 0 then (if (F_S_Segment_has_7 g 8) = 0 then g else (F_S_takeInStream g)) else (se_u g 6 8 1)) else (F_S_takeReset g))))) else (F_S_answerWithReset g))
/-- S_arrive -/
def F_S_arrive_k1 (g3 : se_G) : Int32 × Int32 × se_G := (0, (g3 0 9), g3)
def F_S_arrive (g : se_G) (p1 : Int32) (p2 : Int32) (p3 : Int32) (p4 : Int32) (p5 : Int32) : Int32 × Int32 × se_G := (if p1 < 0 then (1, 0, g) else (if 15 < p1 then (1, 0, g) else (if (F_S_isWidth p4) = 0 then (1, 0, g) else (if (F_S_isWidth p5) = 0 then (1, 0, g) else (F_S_arrive_k1 (F_S_watchClosedWindow (se_u (F_S_takeSegment (F_S_Segment_headIs_7 g p1 p2 p3 p4 p5)) 7 1 0)))))))
/-- S_state -/
def F_S_state (g : se_G)  : Int32 := (g 0 9)
/-- S_figure -/
def F_S_figure (g : se_G) (p1 : Int32) : Int32 × Int32 × se_G := (if p1 = 0 then (0, (g 1 5), g) else (if p1 = 1 then (0, (g 1 6), g) else (if p1 = 2 then (0, (g 1 10), g) else (if p1 = 3 then (0, (g 3 2), g) else (if p1 = 4 then (0, (F_S_Incoming_room g), g) else (if p1 = 5 then (0, (g 5 4), g) else (if p1 = 6 then (0, (g 1 2), g) else (if p1 = 7 then (0, (g 3 3), g) else (if p1 = 8 then (0, (g 5 3), g) else (if p1 = 9 then (0, (g 1 9), g) else (if p1 = 10 then (0, (g 5 6), g) else (if p1 = 11 then (0, (g 5 7), g) else (if p1 = 12 then (0, (F_S_Watch_ticksToAlarm g), g) else (1, 0, g))))))))))))))
def se_WS (k : Nat → ClassId) (h : Nat → Nat) (g : se_G) : va_W := [(h 0, .inr (5, [.int (g 0 0), .int (g 0 1), .ref (h 1), .ref (h 3), .ref (h 5), .ref (h 6), .ref (h 7), .ref (h 9), .int (g 0 8), .int (g 0 9), .int (g 0 10), .int (g 0 11)])),
  (h 1, .inr (2, [.ref (h 2), .int (g 1 1), .int (g 1 2), .int (g 1 3), .int (g 1 4), .int (g 1 5), .int (g 1 6), .int (g 1 7), .int (g 1 8), .int (g 1 9), .int (g 1 10), .int (g 1 11), .int (g 1 12)])),
  (h 2, .inl (k 2, 2048, .inl (g 2))),
  (h 3, .inr (1, [.ref (h 4), .int (g 3 1), .int (g 3 2), .int (g 3 3), .int (g 3 4), .int (g 3 5), .int (g 3 6), .int (g 3 7)])),
  (h 4, .inl (k 4, 2048, .inl (g 4))),
  (h 5, .inr (4, [.int (g 5 0), .int (g 5 1), .int (g 5 2), .int (g 5 3), .int (g 5 4), .int (g 5 5), .int (g 5 6), .int (g 5 7), .int (g 5 8), .int (g 5 9), .int (g 5 10)])),
  (h 6, .inr (0, [.int (g 6 0), .int (g 6 1), .int (g 6 2), .int (g 6 3), .int (g 6 4), .int (g 6 5), .int (g 6 6), .int (g 6 7), .int (g 6 8)])),
  (h 7, .inr (3, [.ref (h 8), .int (g 7 1), .int (g 7 2), .int (g 7 3), .int (g 7 4), .int (g 7 5), .int (g 7 6)])),
  (h 8, .inl (k 8, 1460, .inl (g 8))),
  (h 9, .inr (3, [.ref (h 10), .int (g 9 1), .int (g 9 2), .int (g 9 3), .int (g 9 4), .int (g 9 5), .int (g 9 6)])),
  (h 10, .inl (k 10, 1460, .inl (g 10)))]
theorem kp_windowIs (g : se_G) (a b c : Int32) : F_S_Outgoing_windowIs g a b c 7 1 = g 7 1 := rfl
theorem kp_takeWindow (g : se_G) : F_S_takeWindow g 7 1 = g 7 1 := by
  unfold F_S_takeWindow F_S_takeWindow_k1 F_S_takeWindow_j119 F_S_Outgoing_windowIs
  repeat' split
  all_goals rfl
theorem kp_halt (g : se_G) (a : Int32) : F_S_halt g a 7 1 = g 7 1 := by
  unfold F_S_halt F_S_halt_k1 F_S_Due_dropStream F_S_beginQuiet
  repeat' split
  all_goals rfl
theorem kp_leave (g : se_G) : F_S_leave g 7 1 = g 7 1 := by
  unfold F_S_leave
  repeat' split
  all_goals first | rfl | exact kp_halt _ _
theorem kp_learn (g : se_G) (a : Int32) : F_S_Watch_learn g a 7 1 = g 7 1 := by
  unfold F_S_Watch_learn F_S_Watch_learn_j70
  repeat' split
  all_goals rfl
theorem kp_endMeasure (g : se_G) (a : Int32) : F_S_Watch_endMeasure g a 7 1 = g 7 1 := by
  unfold F_S_Watch_endMeasure
  repeat' split
  all_goals first | rfl | exact kp_learn _ _
theorem kp_takeThanked (g : se_G) : F_S_takeThanked g 7 1 = g 7 1 := by
  unfold F_S_takeThanked F_S_takeThanked_k2 F_S_takeThanked_k1
  repeat' split
  all_goals first | exact kp_endMeasure _ _ | rfl
end
section
/-! written by program (wip/gen) -/
set_option maxRecDepth 100000 in
set_option maxHeartbeats 4000000 in
theorem c_S_isEnded (l : Launch) (D : va_G) (k : Nat → ClassId) (h : Nat → Nat) (sz : Nat) (g : se_G)  : Met l yX5_isEnded (se_w_X5_isEnded) ({ frames := 0, cells := 0, slots := 0, locals := 0 }) (va_Pc [.ref (h 0)] (se_Pre D se_cl [(k 2, .byte), (k 4, .int), (k 8, .byte), (k 10, .byte)] (se_WS k h g) se_ZN sz)) (se_Qp D se_cl [(k 2, .byte), (k 4, .int), (k 8, .byte), (k 10, .byte)] (se_WS k h) (F_S_isEnded g) g (va_A (se_WS k h g) sz)) 0 0 (va_A (se_WS k h g) sz) := by
  refine se_met (Qc := se_Qp D se_cl [(k 2, .byte), (k 4, .int), (k 8, .byte), (k 10, .byte)] (se_WS k h) (F_S_isEnded g) g) (cc := cX5_isEnded) (maxL := 1) (ret := (some .boolean)) (by decide) rfl (Nat.le_of_ble_eq_true rfl) ?_
  intro p e s m below meth c ls A hx hb hr hts hown hlocks hml hA hP hK hD hS hZ hl
  replace hl : lv_has ls 1 [(0, .ref (h 0))] := hl
  have hF : F_S_isEnded g = F_S_isEnded g := rfl
  refine lv_aload_n hx hb dX5_isEnded_0 rfl (lv_at hl 0 rfl) ?_
  refine va_get (D := D) (ci := 5) (v := .int (g 0 9)) (C := RX5) (T := TX5) (N := 12) hx hb hts (se_iw iwX5) hown hK hP 0 rfl rfl 9 (by decide) (hts _ (List.mem_cons_of_mem _ qX5_f60)) (fun _ h9 => h9) rfl dX5_isEnded_1 ?_
  refine lv_if_eq (tgt := 16) hx hb dX5_isEnded_4 (by decide) (fun c1 => ?_) (fun c1 => ?_)
  · refine lv_iconst (v := 1) hx hb dX5_isEnded_16 (by decide) ?_
    refine lv_goto (tgt := 21) hx hb dX5_isEnded_17 (by decide) ?_
    exact se_rpz hx hb hr rfl hlocks hK hP hD hS dX5_isEnded_21 (by rw [F_S_isEnded, if_pos c1])
  · refine lv_aload_n hx hb dX5_isEnded_7 rfl (lv_at hl 0 rfl) ?_
    refine va_get (D := D) (ci := 5) (v := .int (g 0 9)) (C := RX5) (T := TX5) (N := 12) hx hb hts (se_iw iwX5) hown hK hP 0 rfl rfl 9 (by decide) (hts _ (List.mem_cons_of_mem _ qX5_f60)) (fun _ h9 => h9) rfl dX5_isEnded_8 ?_
    refine lv_bipush (v := 11) hx hb dX5_isEnded_11 (by decide) ?_
    refine lv_icmp_ne (tgt := 20) hx hb dX5_isEnded_13 (by decide) (fun c2 => ?_) (fun c2 => ?_)
    · refine lv_iconst (v := 0) hx hb dX5_isEnded_20 (by decide) ?_
      exact se_rpz hx hb hr rfl hlocks hK hP hD hS dX5_isEnded_21 (by rw [F_S_isEnded, if_neg c1, if_neg c2])
    · refine lv_iconst (v := 1) hx hb dX5_isEnded_16 (by decide) ?_
      refine lv_goto (tgt := 21) hx hb dX5_isEnded_17 (by decide) ?_
      exact se_rpz hx hb hr rfl hlocks hK hP hD hS dX5_isEnded_21 (by rw [F_S_isEnded, if_neg c1, if_pos c2])
set_option maxRecDepth 100000 in
set_option maxHeartbeats 4000000 in
theorem c_S_Outgoing_windowIs (l : Launch) (D : va_G) (k : Nat → ClassId) (h : Nat → Nat) (sz : Nat) (g : se_G) (p1 : Int32) (p2 : Int32) (p3 : Int32) : Met l yX2_windowIs (se_w_X2_windowIs) ({ frames := 0, cells := 0, slots := 0, locals := 0 }) (va_Pc [.ref (h 1), .int p1, .int p2, .int p3] (se_Pre D se_cl [(k 2, .byte), (k 4, .int), (k 8, .byte), (k 10, .byte)] (se_WS k h g) se_ZN sz)) (se_Qv D se_cl [(k 2, .byte), (k 4, .int), (k 8, .byte), (k 10, .byte)] (se_WS k h) (F_S_Outgoing_windowIs g p1 p2 p3) (va_A (se_WS k h g) sz)) 0 0 (va_A (se_WS k h g) sz) := by
  refine se_met (Qc := se_Qv D se_cl [(k 2, .byte), (k 4, .int), (k 8, .byte), (k 10, .byte)] (se_WS k h) (F_S_Outgoing_windowIs g p1 p2 p3)) (cc := cX2_windowIs) (maxL := 4) (ret := none) (by decide) rfl (Nat.le_of_ble_eq_true rfl) ?_
  intro p e s m below meth c ls A hx hb hr hts hown hlocks hml hA hP hK hD hS hZ hl
  replace hl : lv_has ls 4 [(0, .ref (h 1)), (1, .int p1), (2, .int p2), (3, .int p3)] := hl
  have hF : F_S_Outgoing_windowIs g p1 p2 p3 = F_S_Outgoing_windowIs g p1 p2 p3 := rfl
  refine lv_aload_n hx hb dX2_windowIs_0 rfl (lv_at hl 0 rfl) ?_
  refine lv_iload_n hx hb dX2_windowIs_1 rfl (lv_at hl 1 rfl) ?_
  refine va_put (D := D) (ci := 2) (v := .int p1) (ty := .int) (C := RX2) (T := TX2) (N := 13) hx hb hts (se_iw iwX2) tyX2 tyX2_ok nmX2 hown hK hP hD hS 1 rfl rfl 10 (by decide) (hts _ (List.mem_cons_of_mem _ qX2_f56)) (fun _ h9 => h9) rfl (by decide +kernel) rfl rfl (Nat.le_of_ble_eq_true rfl) dX2_windowIs_2 (fun H locs hP hD hS => ?_)
  replace hP : va_P D se_cl (se_WS k h (se_u g 1 10 p1)) H := hP
  replace hD : va_D A (se_WS k h (se_u g 1 10 p1)) := hD
  refine lv_aload_n hx hb dX2_windowIs_5 rfl (lv_at hl 0 rfl) ?_
  refine lv_iload_n hx hb dX2_windowIs_6 rfl (lv_at hl 2 rfl) ?_
  refine va_put (D := D) (ci := 2) (v := .int p2) (ty := .int) (C := RX2) (T := TX2) (N := 13) hx hb hts (se_iw iwX2) tyX2 tyX2_ok nmX2 hown hK hP hD hS 1 rfl rfl 11 (by decide) (hts _ (List.mem_cons_of_mem _ qX2_f84)) (fun _ h9 => h9) rfl (by decide +kernel) rfl rfl (Nat.le_of_ble_eq_true rfl) dX2_windowIs_7 (fun H locs hP hD hS => ?_)
  replace hP : va_P D se_cl (se_WS k h (se_u (se_u g 1 10 p1) 1 11 p2)) H := hP
  replace hD : va_D A (se_WS k h (se_u (se_u g 1 10 p1) 1 11 p2)) := hD
  refine lv_aload_n hx hb dX2_windowIs_10 rfl (lv_at hl 0 rfl) ?_
  refine lv_iload_n hx hb dX2_windowIs_11 rfl (lv_at hl 3 rfl) ?_
  refine va_put (D := D) (ci := 2) (v := .int p3) (ty := .int) (C := RX2) (T := TX2) (N := 13) hx hb hts (se_iw iwX2) tyX2 tyX2_ok nmX2 hown hK hP hD hS 1 rfl rfl 12 (by decide) (hts _ (List.mem_cons_of_mem _ qX2_f87)) (fun _ h9 => h9) rfl (by decide +kernel) rfl rfl (Nat.le_of_ble_eq_true rfl) dX2_windowIs_12 (fun H locs hP hD hS => ?_)
  replace hP : va_P D se_cl (se_WS k h (se_u (se_u (se_u g 1 10 p1) 1 11 p2) 1 12 p3)) H := hP
  replace hD : va_D A (se_WS k h (se_u (se_u (se_u g 1 10 p1) 1 11 p2) 1 12 p3)) := hD
  exact se_rv hx hb hr hlocks hK hP hD hS dX2_windowIs_15 (by rw [F_S_Outgoing_windowIs])
set_option maxRecDepth 100000 in
set_option maxHeartbeats 4000000 in
theorem c_S_Outgoing_restart (l : Launch) (D : va_G) (k : Nat → ClassId) (h : Nat → Nat) (sz : Nat) (g : se_G) (p1 : Int32) (p2 : Int32) : Met l yX2_restart (se_w_X2_restart) ({ frames := 1, cells := 0, slots := 0, locals := 23 }) (va_Pc [.ref (h 1), .int p1, .int p2] (se_Pre D se_cl [(k 2, .byte), (k 4, .int), (k 8, .byte), (k 10, .byte)] (se_WS k h g) se_ZN sz)) (se_Qv D se_cl [(k 2, .byte), (k 4, .int), (k 8, .byte), (k 10, .byte)] (se_WS k h) (F_S_Outgoing_restart g p1 p2) (va_A (se_WS k h g) sz)) 0 0 (va_A (se_WS k h g) sz) := by
  refine se_met (Qc := se_Qv D se_cl [(k 2, .byte), (k 4, .int), (k 8, .byte), (k 10, .byte)] (se_WS k h) (F_S_Outgoing_restart g p1 p2)) (cc := cX2_restart) (maxL := 3) (ret := none) (by decide) rfl (Nat.le_of_ble_eq_true rfl) ?_
  intro p e s m below meth c ls A hx hb hr hts hown hlocks hml hA hP hK hD hS hZ hl
  replace hl : lv_has ls 3 [(0, .ref (h 1)), (1, .int p1), (2, .int p2)] := hl
  have hF : F_S_Outgoing_restart g p1 p2 = F_S_Outgoing_restart g p1 p2 := rfl
  refine lv_aload_n hx hb dX2_restart_0 rfl (lv_at hl 0 rfl) ?_
  refine lv_iconst (v := 0) hx hb dX2_restart_1 (by decide) ?_
  refine va_put (D := D) (ci := 2) (v := .int 0) (ty := .int) (C := RX2) (T := TX2) (N := 13) hx hb hts (se_iw iwX2) tyX2 tyX2_ok nmX2 hown hK hP hD hS 1 rfl rfl 1 (by decide) (hts _ (List.mem_cons_of_mem _ qX2_f19)) (fun _ h9 => h9) rfl (by decide +kernel) rfl rfl (Nat.le_of_ble_eq_true rfl) dX2_restart_2 (fun H locs hP hD hS => ?_)
  replace hP : va_P D se_cl (se_WS k h (se_u g 1 1 0)) H := hP
  replace hD : va_D A (se_WS k h (se_u g 1 1 0)) := hD
  refine lv_aload_n hx hb dX2_restart_5 rfl (lv_at hl 0 rfl) ?_
  refine lv_iconst (v := 0) hx hb dX2_restart_6 (by decide) ?_
  refine va_put (D := D) (ci := 2) (v := .int 0) (ty := .int) (C := RX2) (T := TX2) (N := 13) hx hb hts (se_iw iwX2) tyX2 tyX2_ok nmX2 hown hK hP hD hS 1 rfl rfl 2 (by decide) (hts _ (List.mem_cons_of_mem _ qX2_f22)) (fun _ h9 => h9) rfl (by decide +kernel) rfl rfl (Nat.le_of_ble_eq_true rfl) dX2_restart_7 (fun H locs hP hD hS => ?_)
  replace hP : va_P D se_cl (se_WS k h (se_u (se_u g 1 1 0) 1 2 0)) H := hP
  replace hD : va_D A (se_WS k h (se_u (se_u g 1 1 0) 1 2 0)) := hD
  refine lv_aload_n hx hb dX2_restart_10 rfl (lv_at hl 0 rfl) ?_
  refine lv_iconst (v := 0) hx hb dX2_restart_11 (by decide) ?_
  refine va_put (D := D) (ci := 2) (v := .int 0) (ty := .int) (C := RX2) (T := TX2) (N := 13) hx hb hts (se_iw iwX2) tyX2 tyX2_ok nmX2 hown hK hP hD hS 1 rfl rfl 3 (by decide) (hts _ (List.mem_cons_of_mem _ qX2_f25)) (fun _ h9 => h9) rfl (by decide +kernel) rfl rfl (Nat.le_of_ble_eq_true rfl) dX2_restart_12 (fun H locs hP hD hS => ?_)
  replace hP : va_P D se_cl (se_WS k h (se_u (se_u (se_u g 1 1 0) 1 2 0) 1 3 0)) H := hP
  replace hD : va_D A (se_WS k h (se_u (se_u (se_u g 1 1 0) 1 2 0) 1 3 0)) := hD
  refine lv_aload_n hx hb dX2_restart_15 rfl (lv_at hl 0 rfl) ?_
  refine lv_iload_n hx hb dX2_restart_16 rfl (lv_at hl 1 rfl) ?_
  refine va_put (D := D) (ci := 2) (v := .int p1) (ty := .int) (C := RX2) (T := TX2) (N := 13) hx hb hts (se_iw iwX2) tyX2 tyX2_ok nmX2 hown hK hP hD hS 1 rfl rfl 4 (by decide) (hts _ (List.mem_cons_of_mem _ qX2_f28)) (fun _ h9 => h9) rfl (by decide +kernel) rfl rfl (Nat.le_of_ble_eq_true rfl) dX2_restart_17 (fun H locs hP hD hS => ?_)
  replace hP : va_P D se_cl (se_WS k h (se_u (se_u (se_u (se_u g 1 1 0) 1 2 0) 1 3 0) 1 4 p1)) H := hP
  replace hD : va_D A (se_WS k h (se_u (se_u (se_u (se_u g 1 1 0) 1 2 0) 1 3 0) 1 4 p1)) := hD
  refine lv_aload_n hx hb dX2_restart_20 rfl (lv_at hl 0 rfl) ?_
  refine lv_iload_n hx hb dX2_restart_21 rfl (lv_at hl 1 rfl) ?_
  refine va_put (D := D) (ci := 2) (v := .int p1) (ty := .int) (C := RX2) (T := TX2) (N := 13) hx hb hts (se_iw iwX2) tyX2 tyX2_ok nmX2 hown hK hP hD hS 1 rfl rfl 5 (by decide) (hts _ (List.mem_cons_of_mem _ qX2_f31)) (fun _ h9 => h9) rfl (by decide +kernel) rfl rfl (Nat.le_of_ble_eq_true rfl) dX2_restart_22 (fun H locs hP hD hS => ?_)
  replace hP : va_P D se_cl (se_WS k h (se_u (se_u (se_u (se_u (se_u g 1 1 0) 1 2 0) 1 3 0) 1 4 p1) 1 5 p1)) H := hP
  replace hD : va_D A (se_WS k h (se_u (se_u (se_u (se_u (se_u g 1 1 0) 1 2 0) 1 3 0) 1 4 p1) 1 5 p1)) := hD
  refine lv_aload_n hx hb dX2_restart_25 rfl (lv_at hl 0 rfl) ?_
  refine lv_iload_n hx hb dX2_restart_26 rfl (lv_at hl 1 rfl) ?_
  refine va_put (D := D) (ci := 2) (v := .int p1) (ty := .int) (C := RX2) (T := TX2) (N := 13) hx hb hts (se_iw iwX2) tyX2 tyX2_ok nmX2 hown hK hP hD hS 1 rfl rfl 6 (by decide) (hts _ (List.mem_cons_of_mem _ qX2_f34)) (fun _ h9 => h9) rfl (by decide +kernel) rfl rfl (Nat.le_of_ble_eq_true rfl) dX2_restart_27 (fun H locs hP hD hS => ?_)
  replace hP : va_P D se_cl (se_WS k h (se_u (se_u (se_u (se_u (se_u (se_u g 1 1 0) 1 2 0) 1 3 0) 1 4 p1) 1 5 p1) 1 6 p1)) H := hP
  replace hD : va_D A (se_WS k h (se_u (se_u (se_u (se_u (se_u (se_u g 1 1 0) 1 2 0) 1 3 0) 1 4 p1) 1 5 p1) 1 6 p1)) := hD
  refine lv_aload_n hx hb dX2_restart_30 rfl (lv_at hl 0 rfl) ?_
  refine lv_iconst (v := 0) hx hb dX2_restart_31 (by decide) ?_
  refine va_put (D := D) (ci := 2) (v := .int 0) (ty := .boolean) (C := RX2) (T := TX2) (N := 13) hx hb hts (se_iw iwX2) tyX2 tyX2_ok nmX2 hown hK hP hD hS 1 rfl rfl 7 (by decide) (hts _ (List.mem_cons_of_mem _ qX2_f37)) (fun _ h9 => h9) rfl (by decide +kernel) rfl rfl (Nat.le_of_ble_eq_true rfl) dX2_restart_32 (fun H locs hP hD hS => ?_)
  replace hP : va_P D se_cl (se_WS k h (se_u (se_u (se_u (se_u (se_u (se_u (se_u g 1 1 0) 1 2 0) 1 3 0) 1 4 p1) 1 5 p1) 1 6 p1) 1 7 0)) H := hP
  replace hD : va_D A (se_WS k h (se_u (se_u (se_u (se_u (se_u (se_u (se_u g 1 1 0) 1 2 0) 1 3 0) 1 4 p1) 1 5 p1) 1 6 p1) 1 7 0)) := hD
  refine lv_aload_n hx hb dX2_restart_35 rfl (lv_at hl 0 rfl) ?_
  refine lv_iconst (v := 0) hx hb dX2_restart_36 (by decide) ?_
  refine va_put (D := D) (ci := 2) (v := .int 0) (ty := .boolean) (C := RX2) (T := TX2) (N := 13) hx hb hts (se_iw iwX2) tyX2 tyX2_ok nmX2 hown hK hP hD hS 1 rfl rfl 8 (by decide) (hts _ (List.mem_cons_of_mem _ qX2_f41)) (fun _ h9 => h9) rfl (by decide +kernel) rfl rfl (Nat.le_of_ble_eq_true rfl) dX2_restart_37 (fun H locs hP hD hS => ?_)
  replace hP : va_P D se_cl (se_WS k h (se_u (se_u (se_u (se_u (se_u (se_u (se_u (se_u g 1 1 0) 1 2 0) 1 3 0) 1 4 p1) 1 5 p1) 1 6 p1) 1 7 0) 1 8 0)) H := hP
  replace hD : va_D A (se_WS k h (se_u (se_u (se_u (se_u (se_u (se_u (se_u (se_u g 1 1 0) 1 2 0) 1 3 0) 1 4 p1) 1 5 p1) 1 6 p1) 1 7 0) 1 8 0)) := hD
  refine lv_aload_n hx hb dX2_restart_40 rfl (lv_at hl 0 rfl) ?_
  refine lv_iload_n hx hb dX2_restart_41 rfl (lv_at hl 2 rfl) ?_
  refine va_put (D := D) (ci := 2) (v := .int p2) (ty := .int) (C := RX2) (T := TX2) (N := 13) hx hb hts (se_iw iwX2) tyX2 tyX2_ok nmX2 hown hK hP hD hS 1 rfl rfl 9 (by decide) (hts _ (List.mem_cons_of_mem _ qX2_f15)) (fun _ h9 => h9) rfl (by decide +kernel) rfl rfl (Nat.le_of_ble_eq_true rfl) dX2_restart_42 (fun H locs hP hD hS => ?_)
  replace hP : va_P D se_cl (se_WS k h (se_u (se_u (se_u (se_u (se_u (se_u (se_u (se_u (se_u g 1 1 0) 1 2 0) 1 3 0) 1 4 p1) 1 5 p1) 1 6 p1) 1 7 0) 1 8 0) 1 9 p2)) H := hP
  replace hD : va_D A (se_WS k h (se_u (se_u (se_u (se_u (se_u (se_u (se_u (se_u (se_u g 1 1 0) 1 2 0) 1 3 0) 1 4 p1) 1 5 p1) 1 6 p1) 1 7 0) 1 8 0) 1 9 p2)) := hD
  refine lv_aload_n hx hb dX2_restart_45 rfl (lv_at hl 0 rfl) ?_
  refine lv_iconst (v := 0) hx hb dX2_restart_46 (by decide) ?_
  refine lv_iconst (v := 0) hx hb dX2_restart_47 (by decide) ?_
  refine lv_iconst (v := 0) hx hb dX2_restart_48 (by decide) ?_
  refine se_cvE (va_runV (C := RX2) (As := [.int 0, .int 0, .int 0]) (rest := []) ⟨hx, hb, hml, hown, hts⟩ (c_S_Outgoing_windowIs l D k h _ (se_u (se_u (se_u (se_u (se_u (se_u (se_u (se_u (se_u g 1 1 0) 1 2 0) 1 3 0) 1 4 p1) 1 5 p1) 1 6 p1) 1 7 0) 1 8 0) 1 9 p2) 0 0 0) (se_kV 3 hts q_code_X2_windowIs qX2_m44 q_ini_StreamEnd_Outgoing q_instanceMethod_X2_windowIs q_sel_X2_windowIs (by decide +kernel) ⟨Nat.le_of_ble_eq_true rfl, Nat.le_of_ble_eq_true rfl⟩ rfl rfl) ⟨se_blind se_ZN_ok, va_recv hK hP (ci := 2) (q0 := 1) rfl rfl, se_pre se_ZN_ok hP hK hD hZ⟩ rfl rfl hl.1 rfl (lv_room (Nat.le_of_ble_eq_true rfl)) dX2_restart_49 ⟨Nat.zero_le _, Nat.zero_le _⟩) hD hS hA (fun g1 H locs eg1 hP hD hS => ?_)
  exact se_rv hx hb hr hlocks hK hP hD hS dX2_restart_52 (by subst eg1; rw [F_S_Outgoing_restart])
set_option maxRecDepth 100000 in
set_option maxHeartbeats 4000000 in
theorem c_S_Arrays_fill (l : Launch) (D : va_G) (k : Nat → ClassId) (h : Nat → Nat) (sz : Nat) (g : se_G) (p1 : Int32) : Met l yXA_fill (se_w_XA_fill) ({ frames := 0, cells := 0, slots := 0, locals := 0 }) (va_Pc [.ref (h 4), .int p1] (se_Pre D se_cl [(k 2, .byte), (k 4, .int), (k 8, .byte), (k 10, .byte)] (se_WS k h g) se_ZN sz)) (se_Qv D se_cl [(k 2, .byte), (k 4, .int), (k 8, .byte), (k 10, .byte)] (se_WS k h) (F_S_Arrays_fill g p1) (va_A (se_WS k h g) sz)) 0 0 (va_A (se_WS k h g) sz) := by
  refine se_met (Qc := se_Qv D se_cl [(k 2, .byte), (k 4, .int), (k 8, .byte), (k 10, .byte)] (se_WS k h) (F_S_Arrays_fill g p1)) (cc := cXA_fill) (maxL := 4) (ret := none) (by decide) rfl (Nat.le_of_ble_eq_true rfl) ?_
  intro p e s m below meth c ls A hx hb hr hts hown hlocks hml hA hP hK hD hS hZ hl
  replace hl : lv_has ls 4 [(0, .ref (h 4)), (1, .int p1)] := hl
  have L5 : ∀ (n : Nat) (gj5 : se_G) (v1_5 : Int32) (v2_5 : Int32) (v3_5 : Int32) (H : Heap) (locs : List Loc) (ls : Array Slot), (0 ≤ (v2_5).toInt ∧ v3_5 = 2048) → ((v3_5).toInt - (v2_5).toInt).toNat < n → F_S_Arrays_fill_j5 n gj5 v1_5 v2_5 v3_5 = F_S_Arrays_fill g p1 → va_P D se_cl (se_WS k h gj5) H → va_D A (se_WS k h gj5) → va_S A s.heap H locs → lv_has ls 4 [(0, .ref (h 4)), (1, .int v1_5), (2, .int v2_5), (3, .int v3_5)] → W p l e ({ frames := 0, cells := 0, slots := 0, locals := 0 }) s m [.ref (h 4), .int p1].toArray below meth c H locs 0 0 (MQ below (se_Qv D se_cl [(k 2, .byte), (k 4, .int), (k 8, .byte), (k 10, .byte)] (se_WS k h) (F_S_Arrays_fill g p1) A) [.ref (h 4), .int p1].toArray s 0 0 A) (F0 m 5 ls []) := by
    intro n
    induction n with
    | zero => intro gj5 v1_5 v2_5 v3_5 H locs ls hI hM; exact absurd hM (Nat.not_lt_zero _)
    | succ n ih =>
      intro gj5 v1_5 v2_5 v3_5 H locs ls hI hM hF hP hD hS hl
      refine lv_iload_n hx hb dXA_fill_5 rfl (lv_at hl 2 rfl) ?_
      refine lv_iload_n hx hb dXA_fill_6 rfl (lv_at hl 3 rfl) ?_
      refine lv_icmp_ge (tgt := 20) hx hb dXA_fill_7 (by decide) (fun c1 => ?_) (fun c1 => ?_)
      · exact se_rv hx hb hr hlocks hK hP hD hS dXA_fill_20 (by rw [← hF, F_S_Arrays_fill_j5, if_pos c1])
      · refine lv_aload_n hx hb dXA_fill_10 rfl (lv_at hl 0 rfl) ?_
        refine lv_iload_n hx hb dXA_fill_11 rfl (lv_at hl 2 rfl) ?_
        refine lv_iload_n hx hb dXA_fill_12 rfl (lv_at hl 1 rfl) ?_
        refine va_iast hx hb hK hP hD hS 4 1 rfl rfl (se_inN (N := 2048) (by decide) (se_nn hI.1) (hI.2 ▸ c1)) dXA_fill_13 (fun H locs hP hD hS => ?_)
        replace hP : va_P D se_cl (se_WS k h (se_u gj5 4 (Int32.toNatClampNeg v2_5) v1_5)) H := hP
        replace hD : va_D A (se_WS k h (se_u gj5 4 (Int32.toNatClampNeg v2_5) v1_5)) := hD
        refine lv_iinc (v := (v2_5 + 1)) (lv' := [(2, .int (v2_5 + 1)), (0, .ref (h 4)), (1, .int v1_5), (3, .int v3_5)]) hx hb dXA_fill_14 hl (k := 2) rfl rfl (by decide) rfl (fun ls hl => ?_)
        refine lv_goto (tgt := 5) hx hb dXA_fill_17 (by decide) ?_
        exact ih (se_u gj5 4 (Int32.toNatClampNeg v2_5) v1_5) v1_5 (v2_5 + 1) v3_5 _ _ ls ⟨se_inc0 c1 hI.1, hI.2⟩ (se_dec c1 hM) (by rw [← hF, F_S_Arrays_fill_j5, if_neg c1]) hP hD hS (lv_sub hl [1, 2, 0, 3] rfl)
  have hF : F_S_Arrays_fill g p1 = F_S_Arrays_fill g p1 := rfl
  refine lv_iconst (v := 0) hx hb dXA_fill_0 (by decide) ?_
  refine lv_istore_n (lv' := [(2, .int 0), (0, .ref (h 4)), (1, .int p1)]) hx hb dXA_fill_1 rfl hl (by decide) rfl (fun ls hl => ?_)
  refine lv_aload_n hx hb dXA_fill_2 rfl (lv_at hl 1 rfl) ?_
  refine va_alen hx hb hK hP 4 1 rfl rfl (v := 2048) rfl dXA_fill_3 ?_
  refine lv_istore_n (lv' := [(3, .int 2048), (2, .int 0), (0, .ref (h 4)), (1, .int p1)]) hx hb dXA_fill_4 rfl hl (by decide) rfl (fun ls hl => ?_)
  exact L5 ((((2048) : Int32).toInt - ((0) : Int32).toInt).toNat + 1) g p1 0 2048 _ _ ls ⟨by decide, rfl⟩ (se_fuel _ _) (by rw [F_S_Arrays_fill]) hP hD hS (lv_sub hl [2, 3, 1, 0] rfl)
set_option maxRecDepth 100000 in
set_option maxHeartbeats 4000000 in
theorem c_S_Incoming_restart (l : Launch) (D : va_G) (k : Nat → ClassId) (h : Nat → Nat) (sz : Nat) (g : se_G)  : Met l yX1_restart (se_w_X1_restart) ({ frames := 1, cells := 0, slots := 0, locals := 23 }) (va_Pc [.ref (h 3)] (se_Pre D se_cl [(k 2, .byte), (k 4, .int), (k 8, .byte), (k 10, .byte)] (se_WS k h g) se_ZN sz)) (se_Qv D se_cl [(k 2, .byte), (k 4, .int), (k 8, .byte), (k 10, .byte)] (se_WS k h) (F_S_Incoming_restart g) (va_A (se_WS k h g) sz)) 0 0 (va_A (se_WS k h g) sz) := by
  refine se_met (Qc := se_Qv D se_cl [(k 2, .byte), (k 4, .int), (k 8, .byte), (k 10, .byte)] (se_WS k h) (F_S_Incoming_restart g)) (cc := cX1_restart) (maxL := 1) (ret := none) (by decide) rfl (Nat.le_of_ble_eq_true rfl) ?_
  intro p e s m below meth c ls A hx hb hr hts hown hlocks hml hA hP hK hD hS hZ hl
  replace hl : lv_has ls 1 [(0, .ref (h 3))] := hl
  have hF : F_S_Incoming_restart g = F_S_Incoming_restart g := rfl
  refine lv_aload_n hx hb dX1_restart_0 rfl (lv_at hl 0 rfl) ?_
  refine va_get (D := D) (ci := 1) (v := .ref (h 4)) (C := RX1) (T := TX1) (N := 8) hx hb hts (se_iw iwX1) hown hK hP 3 rfl rfl 0 (by decide) (hts _ (List.mem_cons_of_mem _ qX1_f9)) (fun _ h9 => h9) rfl dX1_restart_1 ?_
  refine lv_iconst (v := (-1)) hx hb dX1_restart_4 (by decide) ?_
  refine se_cvE (va_runS (As := [.ref (h 4), .int (-1)]) (rest := []) ⟨hx, hb, hml, hown, hts⟩ (c_S_Arrays_fill l D k h _ g (-1)) (se_kS 2 hts q_code_XA_fill qX1_m15 q_ini_java_util_Arrays q_static_XA_fill (by decide +kernel) ⟨Nat.le_of_ble_eq_true rfl, Nat.le_of_ble_eq_true rfl⟩ rfl rfl) ⟨se_blind se_ZN_ok, se_pre se_ZN_ok hP hK hD hZ⟩ rfl rfl hl.1 rfl (lv_room (Nat.le_of_ble_eq_true rfl)) dX1_restart_5 ⟨Nat.zero_le _, Nat.zero_le _⟩) hD hS hA (fun g1 H locs eg1 hP hD hS => ?_)
  refine lv_aload_n hx hb dX1_restart_8 rfl (lv_at hl 0 rfl) ?_
  refine lv_iconst (v := 0) hx hb dX1_restart_9 (by decide) ?_
  refine va_put (D := D) (ci := 1) (v := .int 0) (ty := .boolean) (C := RX1) (T := TX1) (N := 8) hx hb hts (se_iw iwX1) tyX1 tyX1_ok nmX1 hown hK hP hD hS 3 rfl rfl 1 (by decide) (hts _ (List.mem_cons_of_mem _ qX1_f21)) (fun _ h9 => h9) rfl (by decide +kernel) rfl rfl (Nat.le_of_ble_eq_true rfl) dX1_restart_10 (fun H locs hP hD hS => ?_)
  replace hP : va_P D se_cl (se_WS k h (se_u g1 3 1 0)) H := hP
  replace hD : va_D A (se_WS k h (se_u g1 3 1 0)) := hD
  refine lv_aload_n hx hb dX1_restart_13 rfl (lv_at hl 0 rfl) ?_
  refine lv_iconst (v := 0) hx hb dX1_restart_14 (by decide) ?_
  refine va_put (D := D) (ci := 1) (v := .int 0) (ty := .int) (C := RX1) (T := TX1) (N := 8) hx hb hts (se_iw iwX1) tyX1 tyX1_ok nmX1 hown hK hP hD hS 3 rfl rfl 2 (by decide) (hts _ (List.mem_cons_of_mem _ qX1_f25)) (fun _ h9 => h9) rfl (by decide +kernel) rfl rfl (Nat.le_of_ble_eq_true rfl) dX1_restart_15 (fun H locs hP hD hS => ?_)
  replace hP : va_P D se_cl (se_WS k h (se_u (se_u g1 3 1 0) 3 2 0)) H := hP
  replace hD : va_D A (se_WS k h (se_u (se_u g1 3 1 0) 3 2 0)) := hD
  refine lv_aload_n hx hb dX1_restart_18 rfl (lv_at hl 0 rfl) ?_
  refine lv_iconst (v := 0) hx hb dX1_restart_19 (by decide) ?_
  refine va_put (D := D) (ci := 1) (v := .int 0) (ty := .int) (C := RX1) (T := TX1) (N := 8) hx hb hts (se_iw iwX1) tyX1 tyX1_ok nmX1 hown hK hP hD hS 3 rfl rfl 3 (by decide) (hts _ (List.mem_cons_of_mem _ qX1_f29)) (fun _ h9 => h9) rfl (by decide +kernel) rfl rfl (Nat.le_of_ble_eq_true rfl) dX1_restart_20 (fun H locs hP hD hS => ?_)
  replace hP : va_P D se_cl (se_WS k h (se_u (se_u (se_u g1 3 1 0) 3 2 0) 3 3 0)) H := hP
  replace hD : va_D A (se_WS k h (se_u (se_u (se_u g1 3 1 0) 3 2 0) 3 3 0)) := hD
  refine lv_aload_n hx hb dX1_restart_23 rfl (lv_at hl 0 rfl) ?_
  refine lv_iconst (v := 0) hx hb dX1_restart_24 (by decide) ?_
  refine va_put (D := D) (ci := 1) (v := .int 0) (ty := .int) (C := RX1) (T := TX1) (N := 8) hx hb hts (se_iw iwX1) tyX1 tyX1_ok nmX1 hown hK hP hD hS 3 rfl rfl 4 (by decide) (hts _ (List.mem_cons_of_mem _ qX1_f32)) (fun _ h9 => h9) rfl (by decide +kernel) rfl rfl (Nat.le_of_ble_eq_true rfl) dX1_restart_25 (fun H locs hP hD hS => ?_)
  replace hP : va_P D se_cl (se_WS k h (se_u (se_u (se_u (se_u g1 3 1 0) 3 2 0) 3 3 0) 3 4 0)) H := hP
  replace hD : va_D A (se_WS k h (se_u (se_u (se_u (se_u g1 3 1 0) 3 2 0) 3 3 0) 3 4 0)) := hD
  refine lv_aload_n hx hb dX1_restart_28 rfl (lv_at hl 0 rfl) ?_
  refine lv_iconst (v := 0) hx hb dX1_restart_29 (by decide) ?_
  refine va_put (D := D) (ci := 1) (v := .int 0) (ty := .boolean) (C := RX1) (T := TX1) (N := 8) hx hb hts (se_iw iwX1) tyX1 tyX1_ok nmX1 hown hK hP hD hS 3 rfl rfl 5 (by decide) (hts _ (List.mem_cons_of_mem _ qX1_f35)) (fun _ h9 => h9) rfl (by decide +kernel) rfl rfl (Nat.le_of_ble_eq_true rfl) dX1_restart_30 (fun H locs hP hD hS => ?_)
  replace hP : va_P D se_cl (se_WS k h (se_u (se_u (se_u (se_u (se_u g1 3 1 0) 3 2 0) 3 3 0) 3 4 0) 3 5 0)) H := hP
  replace hD : va_D A (se_WS k h (se_u (se_u (se_u (se_u (se_u g1 3 1 0) 3 2 0) 3 3 0) 3 4 0) 3 5 0)) := hD
  refine lv_aload_n hx hb dX1_restart_33 rfl (lv_at hl 0 rfl) ?_
  refine lv_iconst (v := 0) hx hb dX1_restart_34 (by decide) ?_
  refine va_put (D := D) (ci := 1) (v := .int 0) (ty := .int) (C := RX1) (T := TX1) (N := 8) hx hb hts (se_iw iwX1) tyX1 tyX1_ok nmX1 hown hK hP hD hS 3 rfl rfl 6 (by decide) (hts _ (List.mem_cons_of_mem _ qX1_f38)) (fun _ h9 => h9) rfl (by decide +kernel) rfl rfl (Nat.le_of_ble_eq_true rfl) dX1_restart_35 (fun H locs hP hD hS => ?_)
  replace hP : va_P D se_cl (se_WS k h (se_u (se_u (se_u (se_u (se_u (se_u g1 3 1 0) 3 2 0) 3 3 0) 3 4 0) 3 5 0) 3 6 0)) H := hP
  replace hD : va_D A (se_WS k h (se_u (se_u (se_u (se_u (se_u (se_u g1 3 1 0) 3 2 0) 3 3 0) 3 4 0) 3 5 0) 3 6 0)) := hD
  refine lv_aload_n hx hb dX1_restart_38 rfl (lv_at hl 0 rfl) ?_
  refine lv_iconst (v := 0) hx hb dX1_restart_39 (by decide) ?_
  refine va_put (D := D) (ci := 1) (v := .int 0) (ty := .boolean) (C := RX1) (T := TX1) (N := 8) hx hb hts (se_iw iwX1) tyX1 tyX1_ok nmX1 hown hK hP hD hS 3 rfl rfl 7 (by decide) (hts _ (List.mem_cons_of_mem _ qX1_f41)) (fun _ h9 => h9) rfl (by decide +kernel) rfl rfl (Nat.le_of_ble_eq_true rfl) dX1_restart_40 (fun H locs hP hD hS => ?_)
  replace hP : va_P D se_cl (se_WS k h (se_u (se_u (se_u (se_u (se_u (se_u (se_u g1 3 1 0) 3 2 0) 3 3 0) 3 4 0) 3 5 0) 3 6 0) 3 7 0)) H := hP
  replace hD : va_D A (se_WS k h (se_u (se_u (se_u (se_u (se_u (se_u (se_u g1 3 1 0) 3 2 0) 3 3 0) 3 4 0) 3 5 0) 3 6 0) 3 7 0)) := hD
  exact se_rv hx hb hr hlocks hK hP hD hS dX1_restart_43 (by subst eg1; rw [F_S_Incoming_restart])
set_option maxRecDepth 100000 in
set_option maxHeartbeats 4000000 in
theorem c_S_Watch_restart (l : Launch) (D : va_G) (k : Nat → ClassId) (h : Nat → Nat) (sz : Nat) (g : se_G)  : Met l yX4_restart (se_w_X4_restart) ({ frames := 0, cells := 0, slots := 0, locals := 0 }) (va_Pc [.ref (h 5)] (se_Pre D se_cl [(k 2, .byte), (k 4, .int), (k 8, .byte), (k 10, .byte)] (se_WS k h g) se_ZN sz)) (se_Qv D se_cl [(k 2, .byte), (k 4, .int), (k 8, .byte), (k 10, .byte)] (se_WS k h) (F_S_Watch_restart g) (va_A (se_WS k h g) sz)) 0 0 (va_A (se_WS k h g) sz) := by
  refine se_met (Qc := se_Qv D se_cl [(k 2, .byte), (k 4, .int), (k 8, .byte), (k 10, .byte)] (se_WS k h) (F_S_Watch_restart g)) (cc := cX4_restart) (maxL := 1) (ret := none) (by decide) rfl (Nat.le_of_ble_eq_true rfl) ?_
  intro p e s m below meth c ls A hx hb hr hts hown hlocks hml hA hP hK hD hS hZ hl
  replace hl : lv_has ls 1 [(0, .ref (h 5))] := hl
  have hF : F_S_Watch_restart g = F_S_Watch_restart g := rfl
  refine lv_aload_n hx hb dX4_restart_0 rfl (lv_at hl 0 rfl) ?_
  refine lv_iconst (v := 0) hx hb dX4_restart_1 (by decide) ?_
  refine va_put (D := D) (ci := 4) (v := .int 0) (ty := .boolean) (C := RX4) (T := TX4) (N := 11) hx hb hts (se_iw iwX4) tyX4 tyX4_ok nmX4 hown hK hP hD hS 5 rfl rfl 1 (by decide) (hts _ (List.mem_cons_of_mem _ qX4_f13)) (fun _ h9 => h9) rfl (by decide +kernel) rfl rfl (Nat.le_of_ble_eq_true rfl) dX4_restart_2 (fun H locs hP hD hS => ?_)
  replace hP : va_P D se_cl (se_WS k h (se_u g 5 1 0)) H := hP
  replace hD : va_D A (se_WS k h (se_u g 5 1 0)) := hD
  refine lv_aload_n hx hb dX4_restart_5 rfl (lv_at hl 0 rfl) ?_
  refine lv_iconst (v := 0) hx hb dX4_restart_6 (by decide) ?_
  refine va_put (D := D) (ci := 4) (v := .int 0) (ty := .int) (C := RX4) (T := TX4) (N := 11) hx hb hts (se_iw iwX4) tyX4 tyX4_ok nmX4 hown hK hP hD hS 5 rfl rfl 2 (by decide) (hts _ (List.mem_cons_of_mem _ qX4_f17)) (fun _ h9 => h9) rfl (by decide +kernel) rfl rfl (Nat.le_of_ble_eq_true rfl) dX4_restart_7 (fun H locs hP hD hS => ?_)
  replace hP : va_P D se_cl (se_WS k h (se_u (se_u g 5 1 0) 5 2 0)) H := hP
  replace hD : va_D A (se_WS k h (se_u (se_u g 5 1 0) 5 2 0)) := hD
  refine lv_aload_n hx hb dX4_restart_10 rfl (lv_at hl 0 rfl) ?_
  refine lv_iconst (v := 0) hx hb dX4_restart_11 (by decide) ?_
  refine va_put (D := D) (ci := 4) (v := .int 0) (ty := .int) (C := RX4) (T := TX4) (N := 11) hx hb hts (se_iw iwX4) tyX4 tyX4_ok nmX4 hown hK hP hD hS 5 rfl rfl 3 (by decide) (hts _ (List.mem_cons_of_mem _ qX4_f20)) (fun _ h9 => h9) rfl (by decide +kernel) rfl rfl (Nat.le_of_ble_eq_true rfl) dX4_restart_12 (fun H locs hP hD hS => ?_)
  replace hP : va_P D se_cl (se_WS k h (se_u (se_u (se_u g 5 1 0) 5 2 0) 5 3 0)) H := hP
  replace hD : va_D A (se_WS k h (se_u (se_u (se_u g 5 1 0) 5 2 0) 5 3 0)) := hD
  refine lv_aload_n hx hb dX4_restart_15 rfl (lv_at hl 0 rfl) ?_
  refine lv_bipush (v := 60) hx hb dX4_restart_16 (by decide) ?_
  refine va_put (D := D) (ci := 4) (v := .int 60) (ty := .int) (C := RX4) (T := TX4) (N := 11) hx hb hts (se_iw iwX4) tyX4 tyX4_ok nmX4 hown hK hP hD hS 5 rfl rfl 4 (by decide) (hts _ (List.mem_cons_of_mem _ qX4_f9)) (fun _ h9 => h9) rfl (by decide +kernel) rfl rfl (Nat.le_of_ble_eq_true rfl) dX4_restart_18 (fun H locs hP hD hS => ?_)
  replace hP : va_P D se_cl (se_WS k h (se_u (se_u (se_u (se_u g 5 1 0) 5 2 0) 5 3 0) 5 4 60)) H := hP
  replace hD : va_D A (se_WS k h (se_u (se_u (se_u (se_u g 5 1 0) 5 2 0) 5 3 0) 5 4 60)) := hD
  refine lv_aload_n hx hb dX4_restart_21 rfl (lv_at hl 0 rfl) ?_
  refine lv_iconst (v := 0) hx hb dX4_restart_22 (by decide) ?_
  refine va_put (D := D) (ci := 4) (v := .int 0) (ty := .boolean) (C := RX4) (T := TX4) (N := 11) hx hb hts (se_iw iwX4) tyX4 tyX4_ok nmX4 hown hK hP hD hS 5 rfl rfl 5 (by decide) (hts _ (List.mem_cons_of_mem _ qX4_f23)) (fun _ h9 => h9) rfl (by decide +kernel) rfl rfl (Nat.le_of_ble_eq_true rfl) dX4_restart_23 (fun H locs hP hD hS => ?_)
  replace hP : va_P D se_cl (se_WS k h (se_u (se_u (se_u (se_u (se_u g 5 1 0) 5 2 0) 5 3 0) 5 4 60) 5 5 0)) H := hP
  replace hD : va_D A (se_WS k h (se_u (se_u (se_u (se_u (se_u g 5 1 0) 5 2 0) 5 3 0) 5 4 60) 5 5 0)) := hD
  refine lv_aload_n hx hb dX4_restart_26 rfl (lv_at hl 0 rfl) ?_
  refine lv_iconst (v := 0) hx hb dX4_restart_27 (by decide) ?_
  refine va_put (D := D) (ci := 4) (v := .int 0) (ty := .int) (C := RX4) (T := TX4) (N := 11) hx hb hts (se_iw iwX4) tyX4 tyX4_ok nmX4 hown hK hP hD hS 5 rfl rfl 6 (by decide) (hts _ (List.mem_cons_of_mem _ qX4_f26)) (fun _ h9 => h9) rfl (by decide +kernel) rfl rfl (Nat.le_of_ble_eq_true rfl) dX4_restart_28 (fun H locs hP hD hS => ?_)
  replace hP : va_P D se_cl (se_WS k h (se_u (se_u (se_u (se_u (se_u (se_u g 5 1 0) 5 2 0) 5 3 0) 5 4 60) 5 5 0) 5 6 0)) H := hP
  replace hD : va_D A (se_WS k h (se_u (se_u (se_u (se_u (se_u (se_u g 5 1 0) 5 2 0) 5 3 0) 5 4 60) 5 5 0) 5 6 0)) := hD
  refine lv_aload_n hx hb dX4_restart_31 rfl (lv_at hl 0 rfl) ?_
  refine lv_iconst (v := 0) hx hb dX4_restart_32 (by decide) ?_
  refine va_put (D := D) (ci := 4) (v := .int 0) (ty := .int) (C := RX4) (T := TX4) (N := 11) hx hb hts (se_iw iwX4) tyX4 tyX4_ok nmX4 hown hK hP hD hS 5 rfl rfl 7 (by decide) (hts _ (List.mem_cons_of_mem _ qX4_f29)) (fun _ h9 => h9) rfl (by decide +kernel) rfl rfl (Nat.le_of_ble_eq_true rfl) dX4_restart_33 (fun H locs hP hD hS => ?_)
  replace hP : va_P D se_cl (se_WS k h (se_u (se_u (se_u (se_u (se_u (se_u (se_u g 5 1 0) 5 2 0) 5 3 0) 5 4 60) 5 5 0) 5 6 0) 5 7 0)) H := hP
  replace hD : va_D A (se_WS k h (se_u (se_u (se_u (se_u (se_u (se_u (se_u g 5 1 0) 5 2 0) 5 3 0) 5 4 60) 5 5 0) 5 6 0) 5 7 0)) := hD
  refine lv_aload_n hx hb dX4_restart_36 rfl (lv_at hl 0 rfl) ?_
  refine lv_iconst (v := 0) hx hb dX4_restart_37 (by decide) ?_
  refine va_put (D := D) (ci := 4) (v := .int 0) (ty := .boolean) (C := RX4) (T := TX4) (N := 11) hx hb hts (se_iw iwX4) tyX4 tyX4_ok nmX4 hown hK hP hD hS 5 rfl rfl 8 (by decide) (hts _ (List.mem_cons_of_mem _ qX4_f32)) (fun _ h9 => h9) rfl (by decide +kernel) rfl rfl (Nat.le_of_ble_eq_true rfl) dX4_restart_38 (fun H locs hP hD hS => ?_)
  replace hP : va_P D se_cl (se_WS k h (se_u (se_u (se_u (se_u (se_u (se_u (se_u (se_u g 5 1 0) 5 2 0) 5 3 0) 5 4 60) 5 5 0) 5 6 0) 5 7 0) 5 8 0)) H := hP
  replace hD : va_D A (se_WS k h (se_u (se_u (se_u (se_u (se_u (se_u (se_u (se_u g 5 1 0) 5 2 0) 5 3 0) 5 4 60) 5 5 0) 5 6 0) 5 7 0) 5 8 0)) := hD
  refine lv_aload_n hx hb dX4_restart_41 rfl (lv_at hl 0 rfl) ?_
  refine lv_iconst (v := 0) hx hb dX4_restart_42 (by decide) ?_
  refine va_put (D := D) (ci := 4) (v := .int 0) (ty := .int) (C := RX4) (T := TX4) (N := 11) hx hb hts (se_iw iwX4) tyX4 tyX4_ok nmX4 hown hK hP hD hS 5 rfl rfl 9 (by decide) (hts _ (List.mem_cons_of_mem _ qX4_f35)) (fun _ h9 => h9) rfl (by decide +kernel) rfl rfl (Nat.le_of_ble_eq_true rfl) dX4_restart_43 (fun H locs hP hD hS => ?_)
  replace hP : va_P D se_cl (se_WS k h (se_u (se_u (se_u (se_u (se_u (se_u (se_u (se_u (se_u g 5 1 0) 5 2 0) 5 3 0) 5 4 60) 5 5 0) 5 6 0) 5 7 0) 5 8 0) 5 9 0)) H := hP
  replace hD : va_D A (se_WS k h (se_u (se_u (se_u (se_u (se_u (se_u (se_u (se_u (se_u g 5 1 0) 5 2 0) 5 3 0) 5 4 60) 5 5 0) 5 6 0) 5 7 0) 5 8 0) 5 9 0)) := hD
  refine lv_aload_n hx hb dX4_restart_46 rfl (lv_at hl 0 rfl) ?_
  refine lv_iconst (v := 0) hx hb dX4_restart_47 (by decide) ?_
  refine va_put (D := D) (ci := 4) (v := .int 0) (ty := .int) (C := RX4) (T := TX4) (N := 11) hx hb hts (se_iw iwX4) tyX4 tyX4_ok nmX4 hown hK hP hD hS 5 rfl rfl 10 (by decide) (hts _ (List.mem_cons_of_mem _ qX4_f38)) (fun _ h9 => h9) rfl (by decide +kernel) rfl rfl (Nat.le_of_ble_eq_true rfl) dX4_restart_48 (fun H locs hP hD hS => ?_)
  replace hP : va_P D se_cl (se_WS k h (se_u (se_u (se_u (se_u (se_u (se_u (se_u (se_u (se_u (se_u g 5 1 0) 5 2 0) 5 3 0) 5 4 60) 5 5 0) 5 6 0) 5 7 0) 5 8 0) 5 9 0) 5 10 0)) H := hP
  replace hD : va_D A (se_WS k h (se_u (se_u (se_u (se_u (se_u (se_u (se_u (se_u (se_u (se_u g 5 1 0) 5 2 0) 5 3 0) 5 4 60) 5 5 0) 5 6 0) 5 7 0) 5 8 0) 5 9 0) 5 10 0)) := hD
  exact se_rv hx hb hr hlocks hK hP hD hS dX4_restart_51 (by rw [F_S_Watch_restart])
set_option maxRecDepth 100000 in
set_option maxHeartbeats 4000000 in
theorem c_S_Due_dropStream (l : Launch) (D : va_G) (k : Nat → ClassId) (h : Nat → Nat) (sz : Nat) (g : se_G)  : Met l yX0_dropStream (se_w_X0_dropStream) ({ frames := 0, cells := 0, slots := 0, locals := 0 }) (va_Pc [.ref (h 6)] (se_Pre D se_cl [(k 2, .byte), (k 4, .int), (k 8, .byte), (k 10, .byte)] (se_WS k h g) se_ZN sz)) (se_Qv D se_cl [(k 2, .byte), (k 4, .int), (k 8, .byte), (k 10, .byte)] (se_WS k h) (F_S_Due_dropStream g) (va_A (se_WS k h g) sz)) 0 0 (va_A (se_WS k h g) sz) := by
  refine se_met (Qc := se_Qv D se_cl [(k 2, .byte), (k 4, .int), (k 8, .byte), (k 10, .byte)] (se_WS k h) (F_S_Due_dropStream g)) (cc := cX0_dropStream) (maxL := 1) (ret := none) (by decide) rfl (Nat.le_of_ble_eq_true rfl) ?_
  intro p e s m below meth c ls A hx hb hr hts hown hlocks hml hA hP hK hD hS hZ hl
  replace hl : lv_has ls 1 [(0, .ref (h 6))] := hl
  have hF : F_S_Due_dropStream g = F_S_Due_dropStream g := rfl
  refine lv_aload_n hx hb dX0_dropStream_0 rfl (lv_at hl 0 rfl) ?_
  refine lv_iconst (v := 0) hx hb dX0_dropStream_1 (by decide) ?_
  refine va_put (D := D) (ci := 0) (v := .int 0) (ty := .boolean) (C := RX0) (T := TX0) (N := 9) hx hb hts (se_iw iwX0) tyX0 tyX0_ok nmX0 hown hK hP hD hS 6 rfl rfl 4 (by decide) (hts _ (List.mem_cons_of_mem _ qX0_f19)) (fun _ h9 => h9) rfl (by decide +kernel) rfl rfl (Nat.le_of_ble_eq_true rfl) dX0_dropStream_2 (fun H locs hP hD hS => ?_)
  replace hP : va_P D se_cl (se_WS k h (se_u g 6 4 0)) H := hP
  replace hD : va_D A (se_WS k h (se_u g 6 4 0)) := hD
  refine lv_aload_n hx hb dX0_dropStream_5 rfl (lv_at hl 0 rfl) ?_
  refine lv_iconst (v := 0) hx hb dX0_dropStream_6 (by decide) ?_
  refine va_put (D := D) (ci := 0) (v := .int 0) (ty := .boolean) (C := RX0) (T := TX0) (N := 9) hx hb hts (se_iw iwX0) tyX0 tyX0_ok nmX0 hown hK hP hD hS 6 rfl rfl 6 (by decide) (hts _ (List.mem_cons_of_mem _ qX0_f22)) (fun _ h9 => h9) rfl (by decide +kernel) rfl rfl (Nat.le_of_ble_eq_true rfl) dX0_dropStream_7 (fun H locs hP hD hS => ?_)
  replace hP : va_P D se_cl (se_WS k h (se_u (se_u g 6 4 0) 6 6 0)) H := hP
  replace hD : va_D A (se_WS k h (se_u (se_u g 6 4 0) 6 6 0)) := hD
  refine lv_aload_n hx hb dX0_dropStream_10 rfl (lv_at hl 0 rfl) ?_
  refine lv_iconst (v := 0) hx hb dX0_dropStream_11 (by decide) ?_
  refine va_put (D := D) (ci := 0) (v := .int 0) (ty := .boolean) (C := RX0) (T := TX0) (N := 9) hx hb hts (se_iw iwX0) tyX0 tyX0_ok nmX0 hown hK hP hD hS 6 rfl rfl 7 (by decide) (hts _ (List.mem_cons_of_mem _ qX0_f25)) (fun _ h9 => h9) rfl (by decide +kernel) rfl rfl (Nat.le_of_ble_eq_true rfl) dX0_dropStream_12 (fun H locs hP hD hS => ?_)
  replace hP : va_P D se_cl (se_WS k h (se_u (se_u (se_u g 6 4 0) 6 6 0) 6 7 0)) H := hP
  replace hD : va_D A (se_WS k h (se_u (se_u (se_u g 6 4 0) 6 6 0) 6 7 0)) := hD
  exact se_rv hx hb hr hlocks hK hP hD hS dX0_dropStream_15 (by rw [F_S_Due_dropStream])
set_option maxRecDepth 100000 in
set_option maxHeartbeats 4000000 in
theorem c_S_Due_restart (l : Launch) (D : va_G) (k : Nat → ClassId) (h : Nat → Nat) (sz : Nat) (g : se_G)  : Met l yX0_restart (se_w_X0_restart) ({ frames := 1, cells := 0, slots := 0, locals := 20 }) (va_Pc [.ref (h 6)] (se_Pre D se_cl [(k 2, .byte), (k 4, .int), (k 8, .byte), (k 10, .byte)] (se_WS k h g) se_ZN sz)) (se_Qv D se_cl [(k 2, .byte), (k 4, .int), (k 8, .byte), (k 10, .byte)] (se_WS k h) (F_S_Due_restart g) (va_A (se_WS k h g) sz)) 0 0 (va_A (se_WS k h g) sz) := by
  refine se_met (Qc := se_Qv D se_cl [(k 2, .byte), (k 4, .int), (k 8, .byte), (k 10, .byte)] (se_WS k h) (F_S_Due_restart g)) (cc := cX0_restart) (maxL := 1) (ret := none) (by decide) rfl (Nat.le_of_ble_eq_true rfl) ?_
  intro p e s m below meth c ls A hx hb hr hts hown hlocks hml hA hP hK hD hS hZ hl
  replace hl : lv_has ls 1 [(0, .ref (h 6))] := hl
  have hF : F_S_Due_restart g = F_S_Due_restart g := rfl
  refine lv_aload_n hx hb dX0_restart_0 rfl (lv_at hl 0 rfl) ?_
  refine se_cvE (va_runV (C := RX0) (As := []) (rest := []) ⟨hx, hb, hml, hown, hts⟩ (c_S_Due_dropStream l D k h _ g) (se_kV 0 hts q_code_X0_dropStream qX0_m7 q_ini_StreamEnd_Due q_instanceMethod_X0_dropStream q_sel_X0_dropStream (by decide +kernel) ⟨Nat.le_of_ble_eq_true rfl, Nat.le_of_ble_eq_true rfl⟩ rfl rfl) ⟨se_blind se_ZN_ok, va_recv hK hP (ci := 0) (q0 := 6) rfl rfl, se_pre se_ZN_ok hP hK hD hZ⟩ rfl rfl hl.1 rfl (lv_room (Nat.le_of_ble_eq_true rfl)) dX0_restart_1 ⟨Nat.zero_le _, Nat.zero_le _⟩) hD hS hA (fun g1 H locs eg1 hP hD hS => ?_)
  refine lv_aload_n hx hb dX0_restart_4 rfl (lv_at hl 0 rfl) ?_
  refine lv_iconst (v := 0) hx hb dX0_restart_5 (by decide) ?_
  refine va_put (D := D) (ci := 0) (v := .int 0) (ty := .boolean) (C := RX0) (T := TX0) (N := 9) hx hb hts (se_iw iwX0) tyX0 tyX0_ok nmX0 hown hK hP hD hS 6 rfl rfl 5 (by decide) (hts _ (List.mem_cons_of_mem _ qX0_f12)) (fun _ h9 => h9) rfl (by decide +kernel) rfl rfl (Nat.le_of_ble_eq_true rfl) dX0_restart_6 (fun H locs hP hD hS => ?_)
  replace hP : va_P D se_cl (se_WS k h (se_u g1 6 5 0)) H := hP
  replace hD : va_D A (se_WS k h (se_u g1 6 5 0)) := hD
  refine lv_aload_n hx hb dX0_restart_9 rfl (lv_at hl 0 rfl) ?_
  refine lv_iconst (v := 0) hx hb dX0_restart_10 (by decide) ?_
  refine va_put (D := D) (ci := 0) (v := .int 0) (ty := .boolean) (C := RX0) (T := TX0) (N := 9) hx hb hts (se_iw iwX0) tyX0 tyX0_ok nmX0 hown hK hP hD hS 6 rfl rfl 8 (by decide) (hts _ (List.mem_cons_of_mem _ qX0_f16)) (fun _ h9 => h9) rfl (by decide +kernel) rfl rfl (Nat.le_of_ble_eq_true rfl) dX0_restart_11 (fun H locs hP hD hS => ?_)
  replace hP : va_P D se_cl (se_WS k h (se_u (se_u g1 6 5 0) 6 8 0)) H := hP
  replace hD : va_D A (se_WS k h (se_u (se_u g1 6 5 0) 6 8 0)) := hD
  exact se_rv hx hb hr hlocks hK hP hD hS dX0_restart_14 (by subst eg1; rw [F_S_Due_restart])
set_option maxRecDepth 100000 in
set_option maxHeartbeats 4000000 in
theorem c_S_openIsDue (l : Launch) (D : va_G) (k : Nat → ClassId) (h : Nat → Nat) (sz : Nat) (g : se_G)  : Met l yX5_openIsDue (se_w_X5_openIsDue) ({ frames := 0, cells := 0, slots := 0, locals := 0 }) (va_Pc [.ref (h 0)] (se_Pre D se_cl [(k 2, .byte), (k 4, .int), (k 8, .byte), (k 10, .byte)] (se_WS k h g) se_ZN sz)) (se_Qv D se_cl [(k 2, .byte), (k 4, .int), (k 8, .byte), (k 10, .byte)] (se_WS k h) (F_S_openIsDue g) (va_A (se_WS k h g) sz)) 0 0 (va_A (se_WS k h g) sz) := by
  refine se_met (Qc := se_Qv D se_cl [(k 2, .byte), (k 4, .int), (k 8, .byte), (k 10, .byte)] (se_WS k h) (F_S_openIsDue g)) (cc := cX5_openIsDue) (maxL := 1) (ret := none) (by decide) rfl (Nat.le_of_ble_eq_true rfl) ?_
  intro p e s m below meth c ls A hx hb hr hts hown hlocks hml hA hP hK hD hS hZ hl
  replace hl : lv_has ls 1 [(0, .ref (h 0))] := hl
  have hF : F_S_openIsDue g = F_S_openIsDue g := rfl
  refine lv_aload_n hx hb dX5_openIsDue_0 rfl (lv_at hl 0 rfl) ?_
  refine va_get (D := D) (ci := 5) (v := .ref (h 1)) (C := RX5) (T := TX5) (N := 12) hx hb hts (se_iw iwX5) hown hK hP 0 rfl rfl 2 (by decide) (hts _ (List.mem_cons_of_mem _ qX5_f21)) (fun _ h9 => h9) rfl dX5_openIsDue_1 ?_
  refine lv_aload_n hx hb dX5_openIsDue_4 rfl (lv_at hl 0 rfl) ?_
  refine va_get (D := D) (ci := 5) (v := .ref (h 1)) (C := RX5) (T := TX5) (N := 12) hx hb hts (se_iw iwX5) hown hK hP 0 rfl rfl 2 (by decide) (hts _ (List.mem_cons_of_mem _ qX5_f21)) (fun _ h9 => h9) rfl dX5_openIsDue_5 ?_
  refine va_getN (D := D) (ci := 2) (v := .int (g 1 4)) (C := RX2) (T := TX2) (N := 13) hx hb hts (se_iw iwX2) hown hK hP 1 rfl rfl 4 (by decide) (va_Nw.use rfl (hZ _ nX5_f296 rfl)) (fun _ h9 => h9) rfl dX5_openIsDue_8 ?_
  refine lv_iconst (v := 1) hx hb dX5_openIsDue_11 (by decide) ?_
  refine lv_iadd hx hb dX5_openIsDue_12 ?_
  refine va_putN (D := D) (ci := 2) (v := .int ((g 1 4) + 1)) (ty := .int) (C := RX2) (T := TX2) (N := 13) hx hb hts (se_iw iwX2) tyX2 tyX2_ok nmX2 hown hK hP hD hS 1 rfl rfl 6 (by decide) (va_Nw.use rfl (hZ _ nX5_f137 rfl)) (fun _ h9 => h9) rfl (by decide +kernel) rfl rfl (Nat.le_of_ble_eq_true rfl) dX5_openIsDue_13 (fun H locs hP hD hS => ?_)
  replace hP : va_P D se_cl (se_WS k h (se_u g 1 6 ((g 1 4) + 1))) H := hP
  replace hD : va_D A (se_WS k h (se_u g 1 6 ((g 1 4) + 1))) := hD
  refine lv_aload_n hx hb dX5_openIsDue_16 rfl (lv_at hl 0 rfl) ?_
  refine va_get (D := D) (ci := 5) (v := .ref (h 6)) (C := RX5) (T := TX5) (N := 12) hx hb hts (se_iw iwX5) hown hK hP 0 rfl rfl 5 (by decide) (hts _ (List.mem_cons_of_mem _ qX5_f42)) (fun _ h9 => h9) rfl dX5_openIsDue_17 ?_
  refine lv_iconst (v := 1) hx hb dX5_openIsDue_20 (by decide) ?_
  refine va_putN (D := D) (ci := 0) (v := .int 1) (ty := .boolean) (C := RX0) (T := TX0) (N := 9) hx hb hts (se_iw iwX0) tyX0 tyX0_ok nmX0 hown hK hP hD hS 6 rfl rfl 4 (by decide) (va_Nw.use rfl (hZ _ nX5_f173 rfl)) (fun _ h9 => h9) rfl (by decide +kernel) rfl rfl (Nat.le_of_ble_eq_true rfl) dX5_openIsDue_21 (fun H locs hP hD hS => ?_)
  replace hP : va_P D se_cl (se_WS k h (se_u (se_u g 1 6 ((g 1 4) + 1)) 6 4 1)) H := hP
  replace hD : va_D A (se_WS k h (se_u (se_u g 1 6 ((g 1 4) + 1)) 6 4 1)) := hD
  exact se_rv hx hb hr hlocks hK hP hD hS dX5_openIsDue_24 (by rw [F_S_openIsDue])
set_option maxRecDepth 100000 in
set_option maxHeartbeats 4000000 in
theorem c_S_startStream (l : Launch) (D : va_G) (k : Nat → ClassId) (h : Nat → Nat) (sz : Nat) (g : se_G) (p1 : Int32) (p2 : Int32) (hI : p2 = 0 ∨ p2 = 1) : Met l yX5_startStream (se_w_X5_startStream) ({ frames := 2, cells := 0, slots := 0, locals := 45 }) (va_Pc [.ref (h 0), .int p1, .int p2] (se_Pre D se_cl [(k 2, .byte), (k 4, .int), (k 8, .byte), (k 10, .byte)] (se_WS k h g) se_ZN sz)) (se_Qv D se_cl [(k 2, .byte), (k 4, .int), (k 8, .byte), (k 10, .byte)] (se_WS k h) (F_S_startStream g p1 p2) (va_A (se_WS k h g) sz)) 0 0 (va_A (se_WS k h g) sz) := by
  refine se_met (Qc := se_Qv D se_cl [(k 2, .byte), (k 4, .int), (k 8, .byte), (k 10, .byte)] (se_WS k h) (F_S_startStream g p1 p2)) (cc := cX5_startStream) (maxL := 3) (ret := none) (by decide) rfl (Nat.le_of_ble_eq_true rfl) ?_
  intro p e s m below meth c ls A hx hb hr hts hown hlocks hml hA hP hK hD hS hZ hl
  replace hl : lv_has ls 3 [(0, .ref (h 0)), (1, .int p1), (2, .int p2)] := hl
  have hF : F_S_startStream g p1 p2 = F_S_startStream g p1 p2 := rfl
  refine lv_aload_n hx hb dX5_startStream_0 rfl (lv_at hl 0 rfl) ?_
  refine va_get (D := D) (ci := 5) (v := .ref (h 1)) (C := RX5) (T := TX5) (N := 12) hx hb hts (se_iw iwX5) hown hK hP 0 rfl rfl 2 (by decide) (hts _ (List.mem_cons_of_mem _ qX5_f21)) (fun _ h9 => h9) rfl dX5_startStream_1 ?_
  refine lv_iload_n hx hb dX5_startStream_4 rfl (lv_at hl 1 rfl) ?_
  refine lv_aload_n hx hb dX5_startStream_5 rfl (lv_at hl 0 rfl) ?_
  refine va_get (D := D) (ci := 5) (v := .int (g 0 0)) (C := RX5) (T := TX5) (N := 12) hx hb hts (se_iw iwX5) hown hK hP 0 rfl rfl 0 (by decide) (hts _ (List.mem_cons_of_mem _ qX5_f9)) (fun _ h9 => h9) rfl dX5_startStream_6 ?_
  refine se_cvE (va_runVN (C := RX2) (As := [.int p1, .int (g 0 0)]) (rest := []) ⟨hx, hb, hml, hown, hts⟩ (c_S_Outgoing_restart l D k h _ g p1 (g 0 0)) (se_kVN 2 hts q_code_X2_restart (hZ _ nX5_m285 rfl) q_ini_StreamEnd_Outgoing q_instanceMethod_X2_restart q_sel_X2_restart (by decide +kernel) ⟨Nat.le_of_ble_eq_true rfl, Nat.le_of_ble_eq_true rfl⟩ rfl rfl) ⟨se_blind se_ZN_ok, va_recv hK hP (ci := 2) (q0 := 1) rfl rfl, se_pre se_ZN_ok hP hK hD hZ⟩ rfl rfl hl.1 rfl (lv_room (Nat.le_of_ble_eq_true rfl)) dX5_startStream_9 ⟨Nat.zero_le _, Nat.zero_le _⟩) hD hS hA (fun g1 H locs eg1 hP hD hS => ?_)
  replace hF : (F_S_startStream_k4 p2 (F_S_Outgoing_restart g p1 (g 0 0))) = F_S_startStream g p1 p2 := by rw [F_S_startStream]
  rw [← eg1] at hF
  replace hF : F_S_startStream_k4 p2 g1 = F_S_startStream g p1 p2 := hF
  refine lv_aload_n hx hb dX5_startStream_12 rfl (lv_at hl 0 rfl) ?_
  refine va_get (D := D) (ci := 5) (v := .ref (h 3)) (C := RX5) (T := TX5) (N := 12) hx hb hts (se_iw iwX5) hown hK hP 0 rfl rfl 3 (by decide) (hts _ (List.mem_cons_of_mem _ qX5_f28)) (fun _ h9 => h9) rfl dX5_startStream_13 ?_
  refine se_cvE (va_runVN (C := RX1) (As := []) (rest := []) ⟨hx, hb, hml, hown, hts⟩ (c_S_Incoming_restart l D k h _ g1) (se_kVN 0 hts q_code_X1_restart (hZ _ nX5_m289 rfl) q_ini_StreamEnd_Incoming q_instanceMethod_X1_restart q_sel_X1_restart (by decide +kernel) ⟨Nat.le_of_ble_eq_true rfl, Nat.le_of_ble_eq_true rfl⟩ rfl rfl) ⟨se_blind se_ZN_ok, va_recv hK hP (ci := 1) (q0 := 3) rfl rfl, se_pre se_ZN_ok hP hK hD hZ⟩ rfl rfl hl.1 rfl (lv_room (Nat.le_of_ble_eq_true rfl)) dX5_startStream_16 ⟨Nat.zero_le _, Nat.zero_le _⟩) hD hS hA (fun g2 H locs eg2 hP hD hS => ?_)
  replace hF : (F_S_startStream_k3 p2 (F_S_Incoming_restart g1)) = F_S_startStream g p1 p2 := by rw [← hF, F_S_startStream_k4]
  rw [← eg2] at hF
  replace hF : F_S_startStream_k3 p2 g2 = F_S_startStream g p1 p2 := hF
  refine lv_aload_n hx hb dX5_startStream_19 rfl (lv_at hl 0 rfl) ?_
  refine va_get (D := D) (ci := 5) (v := .ref (h 5)) (C := RX5) (T := TX5) (N := 12) hx hb hts (se_iw iwX5) hown hK hP 0 rfl rfl 4 (by decide) (hts _ (List.mem_cons_of_mem _ qX5_f35)) (fun _ h9 => h9) rfl dX5_startStream_20 ?_
  refine se_cvE (va_runVN (C := RX4) (As := []) (rest := []) ⟨hx, hb, hml, hown, hts⟩ (c_S_Watch_restart l D k h _ g2) (se_kVN 0 hts q_code_X4_restart (hZ _ nX5_m291 rfl) q_ini_StreamEnd_Watch q_instanceMethod_X4_restart q_sel_X4_restart (by decide +kernel) ⟨Nat.le_of_ble_eq_true rfl, Nat.le_of_ble_eq_true rfl⟩ rfl rfl) ⟨se_blind se_ZN_ok, va_recv hK hP (ci := 4) (q0 := 5) rfl rfl, se_pre se_ZN_ok hP hK hD hZ⟩ rfl rfl hl.1 rfl (lv_room (Nat.le_of_ble_eq_true rfl)) dX5_startStream_23 ⟨Nat.zero_le _, Nat.zero_le _⟩) hD hS hA (fun g3 H locs eg3 hP hD hS => ?_)
  replace hF : (F_S_startStream_k2 p2 (F_S_Watch_restart g2)) = F_S_startStream g p1 p2 := by rw [← hF, F_S_startStream_k3]
  rw [← eg3] at hF
  replace hF : F_S_startStream_k2 p2 g3 = F_S_startStream g p1 p2 := hF
  refine lv_aload_n hx hb dX5_startStream_26 rfl (lv_at hl 0 rfl) ?_
  refine va_get (D := D) (ci := 5) (v := .ref (h 6)) (C := RX5) (T := TX5) (N := 12) hx hb hts (se_iw iwX5) hown hK hP 0 rfl rfl 5 (by decide) (hts _ (List.mem_cons_of_mem _ qX5_f42)) (fun _ h9 => h9) rfl dX5_startStream_27 ?_
  refine se_cvE (va_runVN (C := RX0) (As := []) (rest := []) ⟨hx, hb, hml, hown, hts⟩ (c_S_Due_restart l D k h _ g3) (se_kVN 0 hts q_code_X0_restart (hZ _ nX5_m292 rfl) q_ini_StreamEnd_Due q_instanceMethod_X0_restart q_sel_X0_restart (by decide +kernel) ⟨Nat.le_of_ble_eq_true rfl, Nat.le_of_ble_eq_true rfl⟩ rfl rfl) ⟨se_blind se_ZN_ok, va_recv hK hP (ci := 0) (q0 := 6) rfl rfl, se_pre se_ZN_ok hP hK hD hZ⟩ rfl rfl hl.1 rfl (lv_room (Nat.le_of_ble_eq_true rfl)) dX5_startStream_30 ⟨Nat.zero_le _, Nat.zero_le _⟩) hD hS hA (fun g4 H locs eg4 hP hD hS => ?_)
  replace hF : (F_S_startStream_k1 p2 (F_S_Due_restart g3)) = F_S_startStream g p1 p2 := by rw [← hF, F_S_startStream_k2]
  rw [← eg4] at hF
  replace hF : F_S_startStream_k1 p2 g4 = F_S_startStream g p1 p2 := hF
  refine lv_aload_n hx hb dX5_startStream_33 rfl (lv_at hl 0 rfl) ?_
  refine lv_iload_n hx hb dX5_startStream_34 rfl (lv_at hl 2 rfl) ?_
  refine va_put (D := D) (ci := 5) (v := .int p2) (ty := .boolean) (C := RX5) (T := TX5) (N := 12) hx hb hts (se_iw iwX5) tyX5 tyX5_ok nmX5 hown hK hP hD hS 0 rfl rfl 10 (by decide) (hts _ (List.mem_cons_of_mem _ qX5_f63)) (fun _ h9 => h9) rfl (by decide +kernel) (se_nz hI) (se_fz hI) (Nat.le_of_ble_eq_true rfl) dX5_startStream_35 (fun H locs hP hD hS => ?_)
  replace hP : va_P D se_cl (se_WS k h (se_u g4 0 10 p2)) H := hP
  replace hD : va_D A (se_WS k h (se_u g4 0 10 p2)) := hD
  refine lv_iload_n hx hb dX5_startStream_38 rfl (lv_at hl 2 rfl) ?_
  refine lv_if_eq (tgt := 50) hx hb dX5_startStream_39 (by decide) (fun c1 => ?_) (fun c1 => ?_)
  · refine lv_aload_n hx hb dX5_startStream_50 rfl (lv_at hl 0 rfl) ?_
    refine lv_iconst (v := 2) hx hb dX5_startStream_51 (by decide) ?_
    refine va_put (D := D) (ci := 5) (v := .int 2) (ty := .int) (C := RX5) (T := TX5) (N := 12) hx hb hts (se_iw iwX5) tyX5 tyX5_ok nmX5 hown hK hP hD hS 0 rfl rfl 9 (by decide) (hts _ (List.mem_cons_of_mem _ qX5_f60)) (fun _ h9 => h9) rfl (by decide +kernel) rfl rfl (Nat.le_of_ble_eq_true rfl) dX5_startStream_52 (fun H locs hP hD hS => ?_)
    replace hP : va_P D se_cl (se_WS k h (se_u (se_u g4 0 10 p2) 0 9 2)) H := hP
    replace hD : va_D A (se_WS k h (se_u (se_u g4 0 10 p2) 0 9 2)) := hD
    refine lv_aload_n hx hb dX5_startStream_55 rfl (lv_at hl 0 rfl) ?_
    refine se_cvE (va_runV (C := RX5) (As := []) (rest := []) ⟨hx, hb, hml, hown, hts⟩ (c_S_openIsDue l D k h _ (se_u (se_u g4 0 10 p2) 0 9 2)) (se_kV 0 hts q_code_X5_openIsDue qX5_m293 q_ini_StreamEnd q_instanceMethod_X5_openIsDue q_sel_X5_openIsDue (by decide +kernel) ⟨Nat.le_of_ble_eq_true rfl, Nat.le_of_ble_eq_true rfl⟩ rfl rfl) ⟨se_blind se_ZN_ok, va_recv hK hP (ci := 5) (q0 := 0) rfl rfl, se_pre se_ZN_ok hP hK hD hZ⟩ rfl rfl hl.1 rfl (lv_room (Nat.le_of_ble_eq_true rfl)) dX5_startStream_56 ⟨Nat.zero_le _, Nat.zero_le _⟩) hD hS hA (fun g5 H locs eg5 hP hD hS => ?_)
    exact se_rv hx hb hr hlocks hK hP hD hS dX5_startStream_59 (by subst eg5; rw [← hF, F_S_startStream_k1, if_pos c1])
  · refine lv_aload_n hx hb dX5_startStream_42 rfl (lv_at hl 0 rfl) ?_
    refine lv_iconst (v := 1) hx hb dX5_startStream_43 (by decide) ?_
    refine va_put (D := D) (ci := 5) (v := .int 1) (ty := .int) (C := RX5) (T := TX5) (N := 12) hx hb hts (se_iw iwX5) tyX5 tyX5_ok nmX5 hown hK hP hD hS 0 rfl rfl 9 (by decide) (hts _ (List.mem_cons_of_mem _ qX5_f60)) (fun _ h9 => h9) rfl (by decide +kernel) rfl rfl (Nat.le_of_ble_eq_true rfl) dX5_startStream_44 (fun H locs hP hD hS => ?_)
    replace hP : va_P D se_cl (se_WS k h (se_u (se_u g4 0 10 p2) 0 9 1)) H := hP
    replace hD : va_D A (se_WS k h (se_u (se_u g4 0 10 p2) 0 9 1)) := hD
    refine lv_goto (tgt := 59) hx hb dX5_startStream_47 (by decide) ?_
    exact se_rv hx hb hr hlocks hK hP hD hS dX5_startStream_59 (by rw [← hF, F_S_startStream_k1, if_neg c1])
end
section
/-! written by program (wip/gen) -/
set_option maxRecDepth 100000 in
set_option maxHeartbeats 4000000 in
theorem c_S_isHandful (l : Launch) (D : va_G) (k : Nat → ClassId) (h : Nat → Nat) (sz : Nat) (g : se_G) (p0 : Int32) : Met l yX5_isHandful (se_w_X5_isHandful) ({ frames := 0, cells := 0, slots := 0, locals := 0 }) (va_Pc [.int p0] (se_Pre D se_cl [(k 2, .byte), (k 4, .int), (k 8, .byte), (k 10, .byte)] (se_WS k h g) se_ZN sz)) (se_Qp D se_cl [(k 2, .byte), (k 4, .int), (k 8, .byte), (k 10, .byte)] (se_WS k h) (F_S_isHandful p0) g (va_A (se_WS k h g) sz)) 0 0 (va_A (se_WS k h g) sz) := by
  refine se_met (Qc := se_Qp D se_cl [(k 2, .byte), (k 4, .int), (k 8, .byte), (k 10, .byte)] (se_WS k h) (F_S_isHandful p0) g) (cc := cX5_isHandful) (maxL := 1) (ret := (some .boolean)) (by decide) rfl (Nat.le_of_ble_eq_true rfl) ?_
  intro p e s m below meth c ls A hx hb hr hts hown hlocks hml hA hP hK hD hS hZ hl
  replace hl : lv_has ls 1 [(0, .int p0)] := hl
  have hF : F_S_isHandful p0 = F_S_isHandful p0 := rfl
  refine lv_iload_n hx hb dX5_isHandful_0 rfl (lv_at hl 0 rfl) ?_
  refine lv_iconst (v := 1) hx hb dX5_isHandful_1 (by decide) ?_
  refine lv_icmp_lt (tgt := 15) hx hb dX5_isHandful_2 (by decide) (fun c1 => ?_) (fun c1 => ?_)
  · refine lv_iconst (v := 0) hx hb dX5_isHandful_15 (by decide) ?_
    exact se_rpz hx hb hr rfl hlocks hK hP hD hS dX5_isHandful_16 (by rw [F_S_isHandful, if_pos c1])
  · refine lv_iload_n hx hb dX5_isHandful_5 rfl (lv_at hl 0 rfl) ?_
    refine lv_bipush (v := 8) hx hb dX5_isHandful_6 (by decide) ?_
    refine lv_icmp_gt (tgt := 15) hx hb dX5_isHandful_8 (by decide) (fun c2 => ?_) (fun c2 => ?_)
    · refine lv_iconst (v := 0) hx hb dX5_isHandful_15 (by decide) ?_
      exact se_rpz hx hb hr rfl hlocks hK hP hD hS dX5_isHandful_16 (by rw [F_S_isHandful, if_neg c1, if_pos c2])
    · refine lv_iconst (v := 1) hx hb dX5_isHandful_11 (by decide) ?_
      refine lv_goto (tgt := 16) hx hb dX5_isHandful_12 (by decide) ?_
      exact se_rpz hx hb hr rfl hlocks hK hP hD hS dX5_isHandful_16 (by rw [F_S_isHandful, if_neg c1, if_neg c2])
set_option maxRecDepth 100000 in
set_option maxHeartbeats 4000000 in
theorem c_S_Outgoing_space (l : Launch) (D : va_G) (k : Nat → ClassId) (h : Nat → Nat) (sz : Nat) (g : se_G)  : Met l yX2_space (se_w_X2_space) ({ frames := 0, cells := 0, slots := 0, locals := 0 }) (va_Pc [.ref (h 1)] (se_Pre D se_cl [(k 2, .byte), (k 4, .int), (k 8, .byte), (k 10, .byte)] (se_WS k h g) se_ZN sz)) (se_Qp D se_cl [(k 2, .byte), (k 4, .int), (k 8, .byte), (k 10, .byte)] (se_WS k h) (F_S_Outgoing_space g) g (va_A (se_WS k h g) sz)) 0 0 (va_A (se_WS k h g) sz) := by
  refine se_met (Qc := se_Qp D se_cl [(k 2, .byte), (k 4, .int), (k 8, .byte), (k 10, .byte)] (se_WS k h) (F_S_Outgoing_space g) g) (cc := cX2_space) (maxL := 1) (ret := (some .int)) (by decide) rfl (Nat.le_of_ble_eq_true rfl) ?_
  intro p e s m below meth c ls A hx hb hr hts hown hlocks hml hA hP hK hD hS hZ hl
  replace hl : lv_has ls 1 [(0, .ref (h 1))] := hl
  have hF : F_S_Outgoing_space g = F_S_Outgoing_space g := rfl
  refine lv_sipush (v := 2048) hx hb dX2_space_0 (by decide) ?_
  refine lv_aload_n hx hb dX2_space_3 rfl (lv_at hl 0 rfl) ?_
  refine va_get (D := D) (ci := 2) (v := .int (g 1 2)) (C := RX2) (T := TX2) (N := 13) hx hb hts (se_iw iwX2) hown hK hP 1 rfl rfl 2 (by decide) (hts _ (List.mem_cons_of_mem _ qX2_f22)) (fun _ h9 => h9) rfl dX2_space_4 ?_
  refine lv_isub hx hb dX2_space_7 ?_
  exact se_rp hx hb hr  hlocks hK hP hD hS dX2_space_8 (by rw [F_S_Outgoing_space])
set_option maxRecDepth 100000 in
set_option maxHeartbeats 4000000 in
theorem c_S_maySendNew (l : Launch) (D : va_G) (k : Nat → ClassId) (h : Nat → Nat) (sz : Nat) (g : se_G)  : Met l yX5_maySendNew (se_w_X5_maySendNew) ({ frames := 0, cells := 0, slots := 0, locals := 0 }) (va_Pc [.ref (h 0)] (se_Pre D se_cl [(k 2, .byte), (k 4, .int), (k 8, .byte), (k 10, .byte)] (se_WS k h g) se_ZN sz)) (se_Qp D se_cl [(k 2, .byte), (k 4, .int), (k 8, .byte), (k 10, .byte)] (se_WS k h) (F_S_maySendNew g) g (va_A (se_WS k h g) sz)) 0 0 (va_A (se_WS k h g) sz) := by
  refine se_met (Qc := se_Qp D se_cl [(k 2, .byte), (k 4, .int), (k 8, .byte), (k 10, .byte)] (se_WS k h) (F_S_maySendNew g) g) (cc := cX5_maySendNew) (maxL := 1) (ret := (some .boolean)) (by decide) rfl (Nat.le_of_ble_eq_true rfl) ?_
  intro p e s m below meth c ls A hx hb hr hts hown hlocks hml hA hP hK hD hS hZ hl
  replace hl : lv_has ls 1 [(0, .ref (h 0))] := hl
  have hF : F_S_maySendNew g = F_S_maySendNew g := rfl
  refine lv_aload_n hx hb dX5_maySendNew_0 rfl (lv_at hl 0 rfl) ?_
  refine va_get (D := D) (ci := 5) (v := .int (g 0 9)) (C := RX5) (T := TX5) (N := 12) hx hb hts (se_iw iwX5) hown hK hP 0 rfl rfl 9 (by decide) (hts _ (List.mem_cons_of_mem _ qX5_f60)) (fun _ h9 => h9) rfl dX5_maySendNew_1 ?_
  refine lv_iconst (v := 4) hx hb dX5_maySendNew_4 (by decide) ?_
  refine lv_icmp_eq (tgt := 43) hx hb dX5_maySendNew_5 (by decide) (fun c1 => ?_) (fun c1 => ?_)
  · refine lv_iconst (v := 1) hx hb dX5_maySendNew_43 (by decide) ?_
    refine lv_goto (tgt := 48) hx hb dX5_maySendNew_44 (by decide) ?_
    exact se_rpz hx hb hr rfl hlocks hK hP hD hS dX5_maySendNew_48 (by rw [F_S_maySendNew, if_pos c1])
  · refine lv_aload_n hx hb dX5_maySendNew_8 rfl (lv_at hl 0 rfl) ?_
    refine va_get (D := D) (ci := 5) (v := .int (g 0 9)) (C := RX5) (T := TX5) (N := 12) hx hb hts (se_iw iwX5) hown hK hP 0 rfl rfl 9 (by decide) (hts _ (List.mem_cons_of_mem _ qX5_f60)) (fun _ h9 => h9) rfl dX5_maySendNew_9 ?_
    refine lv_iconst (v := 5) hx hb dX5_maySendNew_12 (by decide) ?_
    refine lv_icmp_eq (tgt := 43) hx hb dX5_maySendNew_13 (by decide) (fun c2 => ?_) (fun c2 => ?_)
    · refine lv_iconst (v := 1) hx hb dX5_maySendNew_43 (by decide) ?_
      refine lv_goto (tgt := 48) hx hb dX5_maySendNew_44 (by decide) ?_
      exact se_rpz hx hb hr rfl hlocks hK hP hD hS dX5_maySendNew_48 (by rw [F_S_maySendNew, if_neg c1, if_pos c2])
    · refine lv_aload_n hx hb dX5_maySendNew_16 rfl (lv_at hl 0 rfl) ?_
      refine va_get (D := D) (ci := 5) (v := .int (g 0 9)) (C := RX5) (T := TX5) (N := 12) hx hb hts (se_iw iwX5) hown hK hP 0 rfl rfl 9 (by decide) (hts _ (List.mem_cons_of_mem _ qX5_f60)) (fun _ h9 => h9) rfl dX5_maySendNew_17 ?_
      refine lv_bipush (v := 7) hx hb dX5_maySendNew_20 (by decide) ?_
      refine lv_icmp_eq (tgt := 43) hx hb dX5_maySendNew_22 (by decide) (fun c3 => ?_) (fun c3 => ?_)
      · refine lv_iconst (v := 1) hx hb dX5_maySendNew_43 (by decide) ?_
        refine lv_goto (tgt := 48) hx hb dX5_maySendNew_44 (by decide) ?_
        exact se_rpz hx hb hr rfl hlocks hK hP hD hS dX5_maySendNew_48 (by rw [F_S_maySendNew, if_neg c1, if_neg c2, if_pos c3])
      · refine lv_aload_n hx hb dX5_maySendNew_25 rfl (lv_at hl 0 rfl) ?_
        refine va_get (D := D) (ci := 5) (v := .int (g 0 9)) (C := RX5) (T := TX5) (N := 12) hx hb hts (se_iw iwX5) hown hK hP 0 rfl rfl 9 (by decide) (hts _ (List.mem_cons_of_mem _ qX5_f60)) (fun _ h9 => h9) rfl dX5_maySendNew_26 ?_
        refine lv_bipush (v := 8) hx hb dX5_maySendNew_29 (by decide) ?_
        refine lv_icmp_eq (tgt := 43) hx hb dX5_maySendNew_31 (by decide) (fun c4 => ?_) (fun c4 => ?_)
        · refine lv_iconst (v := 1) hx hb dX5_maySendNew_43 (by decide) ?_
          refine lv_goto (tgt := 48) hx hb dX5_maySendNew_44 (by decide) ?_
          exact se_rpz hx hb hr rfl hlocks hK hP hD hS dX5_maySendNew_48 (by rw [F_S_maySendNew, if_neg c1, if_neg c2, if_neg c3, if_pos c4])
        · refine lv_aload_n hx hb dX5_maySendNew_34 rfl (lv_at hl 0 rfl) ?_
          refine va_get (D := D) (ci := 5) (v := .int (g 0 9)) (C := RX5) (T := TX5) (N := 12) hx hb hts (se_iw iwX5) hown hK hP 0 rfl rfl 9 (by decide) (hts _ (List.mem_cons_of_mem _ qX5_f60)) (fun _ h9 => h9) rfl dX5_maySendNew_35 ?_
          refine lv_bipush (v := 9) hx hb dX5_maySendNew_38 (by decide) ?_
          refine lv_icmp_ne (tgt := 47) hx hb dX5_maySendNew_40 (by decide) (fun c5 => ?_) (fun c5 => ?_)
          · refine lv_iconst (v := 0) hx hb dX5_maySendNew_47 (by decide) ?_
            exact se_rpz hx hb hr rfl hlocks hK hP hD hS dX5_maySendNew_48 (by rw [F_S_maySendNew, if_neg c1, if_neg c2, if_neg c3, if_neg c4, if_neg c5])
          · refine lv_iconst (v := 1) hx hb dX5_maySendNew_43 (by decide) ?_
            refine lv_goto (tgt := 48) hx hb dX5_maySendNew_44 (by decide) ?_
            exact se_rpz hx hb hr rfl hlocks hK hP hD hS dX5_maySendNew_48 (by rw [F_S_maySendNew, if_neg c1, if_neg c2, if_neg c3, if_neg c4, if_pos c5])
set_option maxRecDepth 100000 in
set_option maxHeartbeats 4000000 in
theorem c_S_Outgoing_hasUnthanked (l : Launch) (D : va_G) (k : Nat → ClassId) (h : Nat → Nat) (sz : Nat) (g : se_G)  : Met l yX2_hasUnthanked (se_w_X2_hasUnthanked) ({ frames := 0, cells := 0, slots := 0, locals := 0 }) (va_Pc [.ref (h 1)] (se_Pre D se_cl [(k 2, .byte), (k 4, .int), (k 8, .byte), (k 10, .byte)] (se_WS k h g) se_ZN sz)) (se_Qp D se_cl [(k 2, .byte), (k 4, .int), (k 8, .byte), (k 10, .byte)] (se_WS k h) (F_S_Outgoing_hasUnthanked g) g (va_A (se_WS k h g) sz)) 0 0 (va_A (se_WS k h g) sz) := by
  refine se_met (Qc := se_Qp D se_cl [(k 2, .byte), (k 4, .int), (k 8, .byte), (k 10, .byte)] (se_WS k h) (F_S_Outgoing_hasUnthanked g) g) (cc := cX2_hasUnthanked) (maxL := 1) (ret := (some .boolean)) (by decide) rfl (Nat.le_of_ble_eq_true rfl) ?_
  intro p e s m below meth c ls A hx hb hr hts hown hlocks hml hA hP hK hD hS hZ hl
  replace hl : lv_has ls 1 [(0, .ref (h 1))] := hl
  have hF : F_S_Outgoing_hasUnthanked g = F_S_Outgoing_hasUnthanked g := rfl
  refine lv_aload_n hx hb dX2_hasUnthanked_0 rfl (lv_at hl 0 rfl) ?_
  refine va_get (D := D) (ci := 2) (v := .int (g 1 5)) (C := RX2) (T := TX2) (N := 13) hx hb hts (se_iw iwX2) hown hK hP 1 rfl rfl 5 (by decide) (hts _ (List.mem_cons_of_mem _ qX2_f31)) (fun _ h9 => h9) rfl dX2_hasUnthanked_1 ?_
  refine lv_aload_n hx hb dX2_hasUnthanked_4 rfl (lv_at hl 0 rfl) ?_
  refine va_get (D := D) (ci := 2) (v := .int (g 1 6)) (C := RX2) (T := TX2) (N := 13) hx hb hts (se_iw iwX2) hown hK hP 1 rfl rfl 6 (by decide) (hts _ (List.mem_cons_of_mem _ qX2_f34)) (fun _ h9 => h9) rfl dX2_hasUnthanked_5 ?_
  refine lv_icmp_eq (tgt := 15) hx hb dX2_hasUnthanked_8 (by decide) (fun c1 => ?_) (fun c1 => ?_)
  · refine lv_iconst (v := 0) hx hb dX2_hasUnthanked_15 (by decide) ?_
    exact se_rpz hx hb hr rfl hlocks hK hP hD hS dX2_hasUnthanked_16 (by rw [F_S_Outgoing_hasUnthanked, if_pos c1])
  · refine lv_iconst (v := 1) hx hb dX2_hasUnthanked_11 (by decide) ?_
    refine lv_goto (tgt := 16) hx hb dX2_hasUnthanked_12 (by decide) ?_
    exact se_rpz hx hb hr rfl hlocks hK hP hD hS dX2_hasUnthanked_16 (by rw [F_S_Outgoing_hasUnthanked, if_neg c1])
set_option maxRecDepth 100000 in
set_option maxHeartbeats 4000000 in
theorem c_S_Outgoing_unsent (l : Launch) (D : va_G) (k : Nat → ClassId) (h : Nat → Nat) (sz : Nat) (g : se_G)  : Met l yX2_unsent (se_w_X2_unsent) ({ frames := 0, cells := 0, slots := 0, locals := 0 }) (va_Pc [.ref (h 1)] (se_Pre D se_cl [(k 2, .byte), (k 4, .int), (k 8, .byte), (k 10, .byte)] (se_WS k h g) se_ZN sz)) (se_Qp D se_cl [(k 2, .byte), (k 4, .int), (k 8, .byte), (k 10, .byte)] (se_WS k h) (F_S_Outgoing_unsent g) g (va_A (se_WS k h g) sz)) 0 0 (va_A (se_WS k h g) sz) := by
  refine se_met (Qc := se_Qp D se_cl [(k 2, .byte), (k 4, .int), (k 8, .byte), (k 10, .byte)] (se_WS k h) (F_S_Outgoing_unsent g) g) (cc := cX2_unsent) (maxL := 1) (ret := (some .int)) (by decide) rfl (Nat.le_of_ble_eq_true rfl) ?_
  intro p e s m below meth c ls A hx hb hr hts hown hlocks hml hA hP hK hD hS hZ hl
  replace hl : lv_has ls 1 [(0, .ref (h 1))] := hl
  have hF : F_S_Outgoing_unsent g = F_S_Outgoing_unsent g := rfl
  refine lv_aload_n hx hb dX2_unsent_0 rfl (lv_at hl 0 rfl) ?_
  refine va_get (D := D) (ci := 2) (v := .int (g 1 2)) (C := RX2) (T := TX2) (N := 13) hx hb hts (se_iw iwX2) hown hK hP 1 rfl rfl 2 (by decide) (hts _ (List.mem_cons_of_mem _ qX2_f22)) (fun _ h9 => h9) rfl dX2_unsent_1 ?_
  refine lv_aload_n hx hb dX2_unsent_4 rfl (lv_at hl 0 rfl) ?_
  refine va_get (D := D) (ci := 2) (v := .int (g 1 3)) (C := RX2) (T := TX2) (N := 13) hx hb hts (se_iw iwX2) hown hK hP 1 rfl rfl 3 (by decide) (hts _ (List.mem_cons_of_mem _ qX2_f25)) (fun _ h9 => h9) rfl dX2_unsent_5 ?_
  refine lv_isub hx hb dX2_unsent_8 ?_
  exact se_rp hx hb hr  hlocks hK hP hD hS dX2_unsent_9 (by rw [F_S_Outgoing_unsent])
set_option maxRecDepth 100000 in
set_option maxHeartbeats 4000000 in
theorem c_S_Outgoing_hasNew (l : Launch) (D : va_G) (k : Nat → ClassId) (h : Nat → Nat) (sz : Nat) (g : se_G)  : Met l yX2_hasNew (se_w_X2_hasNew) ({ frames := 1, cells := 0, slots := 0, locals := 20 }) (va_Pc [.ref (h 1)] (se_Pre D se_cl [(k 2, .byte), (k 4, .int), (k 8, .byte), (k 10, .byte)] (se_WS k h g) se_ZN sz)) (se_Qp D se_cl [(k 2, .byte), (k 4, .int), (k 8, .byte), (k 10, .byte)] (se_WS k h) (F_S_Outgoing_hasNew g) g (va_A (se_WS k h g) sz)) 0 0 (va_A (se_WS k h g) sz) := by
  refine se_met (Qc := se_Qp D se_cl [(k 2, .byte), (k 4, .int), (k 8, .byte), (k 10, .byte)] (se_WS k h) (F_S_Outgoing_hasNew g) g) (cc := cX2_hasNew) (maxL := 1) (ret := (some .boolean)) (by decide) rfl (Nat.le_of_ble_eq_true rfl) ?_
  intro p e s m below meth c ls A hx hb hr hts hown hlocks hml hA hP hK hD hS hZ hl
  replace hl : lv_has ls 1 [(0, .ref (h 1))] := hl
  have hF : F_S_Outgoing_hasNew g = F_S_Outgoing_hasNew g := rfl
  refine lv_aload_n hx hb dX2_hasNew_0 rfl (lv_at hl 0 rfl) ?_
  refine se_cp (va_runV (C := RX2) (As := []) (rest := []) ⟨hx, hb, hml, hown, hts⟩ (c_S_Outgoing_unsent l D k h _ g) (se_kV 0 hts q_code_X2_unsent qX2_m48 q_ini_StreamEnd_Outgoing q_instanceMethod_X2_unsent q_sel_X2_unsent (by decide +kernel) ⟨Nat.le_of_ble_eq_true rfl, Nat.le_of_ble_eq_true rfl⟩ rfl rfl) ⟨se_blind se_ZN_ok, va_recv hK hP (ci := 2) (q0 := 1) rfl rfl, se_pre se_ZN_ok hP hK hD hZ⟩ rfl rfl hl.1 rfl (lv_room (Nat.le_of_ble_eq_true rfl)) dX2_hasNew_1 ⟨Nat.zero_le _, Nat.zero_le _⟩) hD hS hA (fun H locs hP hD hS => ?_)
  refine lv_if_gt (tgt := 21) hx hb dX2_hasNew_4 (by decide) (fun c1 => ?_) (fun c1 => ?_)
  · refine lv_iconst (v := 1) hx hb dX2_hasNew_21 (by decide) ?_
    refine lv_goto (tgt := 26) hx hb dX2_hasNew_22 (by decide) ?_
    exact se_rpz hx hb hr rfl hlocks hK hP hD hS dX2_hasNew_26 (by rw [F_S_Outgoing_hasNew, if_pos c1])
  · refine lv_aload_n hx hb dX2_hasNew_7 rfl (lv_at hl 0 rfl) ?_
    refine va_get (D := D) (ci := 2) (v := .int (g 1 7)) (C := RX2) (T := TX2) (N := 13) hx hb hts (se_iw iwX2) hown hK hP 1 rfl rfl 7 (by decide) (hts _ (List.mem_cons_of_mem _ qX2_f37)) (fun _ h9 => h9) rfl dX2_hasNew_8 ?_
    refine lv_if_eq (tgt := 25) hx hb dX2_hasNew_11 (by decide) (fun c2 => ?_) (fun c2 => ?_)
    · refine lv_iconst (v := 0) hx hb dX2_hasNew_25 (by decide) ?_
      exact se_rpz hx hb hr rfl hlocks hK hP hD hS dX2_hasNew_26 (by rw [F_S_Outgoing_hasNew, if_neg c1, if_pos c2])
    · refine lv_aload_n hx hb dX2_hasNew_14 rfl (lv_at hl 0 rfl) ?_
      refine va_get (D := D) (ci := 2) (v := .int (g 1 8)) (C := RX2) (T := TX2) (N := 13) hx hb hts (se_iw iwX2) hown hK hP 1 rfl rfl 8 (by decide) (hts _ (List.mem_cons_of_mem _ qX2_f41)) (fun _ h9 => h9) rfl dX2_hasNew_15 ?_
      refine lv_if_ne (tgt := 25) hx hb dX2_hasNew_18 (by decide) (fun c3 => ?_) (fun c3 => ?_)
      · refine lv_iconst (v := 0) hx hb dX2_hasNew_25 (by decide) ?_
        exact se_rpz hx hb hr rfl hlocks hK hP hD hS dX2_hasNew_26 (by rw [F_S_Outgoing_hasNew, if_neg c1, if_neg c2, if_neg c3])
      · refine lv_iconst (v := 1) hx hb dX2_hasNew_21 (by decide) ?_
        refine lv_goto (tgt := 26) hx hb dX2_hasNew_22 (by decide) ?_
        exact se_rpz hx hb hr rfl hlocks hK hP hD hS dX2_hasNew_26 (by rw [F_S_Outgoing_hasNew, if_neg c1, if_neg c2, if_pos c3])
set_option maxRecDepth 100000 in
set_option maxHeartbeats 4000000 in
theorem c_S_Watch_setAlarm (l : Launch) (D : va_G) (k : Nat → ClassId) (h : Nat → Nat) (sz : Nat) (g : se_G)  : Met l yX4_setAlarm (se_w_X4_setAlarm) ({ frames := 0, cells := 0, slots := 0, locals := 0 }) (va_Pc [.ref (h 5)] (se_Pre D se_cl [(k 2, .byte), (k 4, .int), (k 8, .byte), (k 10, .byte)] (se_WS k h g) se_ZN sz)) (se_Qv D se_cl [(k 2, .byte), (k 4, .int), (k 8, .byte), (k 10, .byte)] (se_WS k h) (F_S_Watch_setAlarm g) (va_A (se_WS k h g) sz)) 0 0 (va_A (se_WS k h g) sz) := by
  refine se_met (Qc := se_Qv D se_cl [(k 2, .byte), (k 4, .int), (k 8, .byte), (k 10, .byte)] (se_WS k h) (F_S_Watch_setAlarm g)) (cc := cX4_setAlarm) (maxL := 1) (ret := none) (by decide) rfl (Nat.le_of_ble_eq_true rfl) ?_
  intro p e s m below meth c ls A hx hb hr hts hown hlocks hml hA hP hK hD hS hZ hl
  replace hl : lv_has ls 1 [(0, .ref (h 5))] := hl
  have hF : F_S_Watch_setAlarm g = F_S_Watch_setAlarm g := rfl
  refine lv_aload_n hx hb dX4_setAlarm_0 rfl (lv_at hl 0 rfl) ?_
  refine lv_iconst (v := 1) hx hb dX4_setAlarm_1 (by decide) ?_
  refine va_put (D := D) (ci := 4) (v := .int 1) (ty := .boolean) (C := RX4) (T := TX4) (N := 11) hx hb hts (se_iw iwX4) tyX4 tyX4_ok nmX4 hown hK hP hD hS 5 rfl rfl 1 (by decide) (hts _ (List.mem_cons_of_mem _ qX4_f13)) (fun _ h9 => h9) rfl (by decide +kernel) rfl rfl (Nat.le_of_ble_eq_true rfl) dX4_setAlarm_2 (fun H locs hP hD hS => ?_)
  replace hP : va_P D se_cl (se_WS k h (se_u g 5 1 1)) H := hP
  replace hD : va_D A (se_WS k h (se_u g 5 1 1)) := hD
  refine lv_aload_n hx hb dX4_setAlarm_5 rfl (lv_at hl 0 rfl) ?_
  refine lv_aload_n hx hb dX4_setAlarm_6 rfl (lv_at hl 0 rfl) ?_
  refine va_get (D := D) (ci := 4) (v := .int (g 5 0)) (C := RX4) (T := TX4) (N := 11) hx hb hts (se_iw iwX4) hown hK hP 5 rfl rfl 0 (by decide) (hts _ (List.mem_cons_of_mem _ qX4_f41)) (fun _ h9 => h9) rfl dX4_setAlarm_7 ?_
  refine lv_aload_n hx hb dX4_setAlarm_10 rfl (lv_at hl 0 rfl) ?_
  refine va_get (D := D) (ci := 4) (v := .int (g 5 4)) (C := RX4) (T := TX4) (N := 11) hx hb hts (se_iw iwX4) hown hK hP 5 rfl rfl 4 (by decide) (hts _ (List.mem_cons_of_mem _ qX4_f9)) (fun _ h9 => h9) rfl dX4_setAlarm_11 ?_
  refine lv_iadd hx hb dX4_setAlarm_14 ?_
  refine va_put (D := D) (ci := 4) (v := .int ((g 5 0) + (g 5 4))) (ty := .int) (C := RX4) (T := TX4) (N := 11) hx hb hts (se_iw iwX4) tyX4 tyX4_ok nmX4 hown hK hP hD hS 5 rfl rfl 2 (by decide) (hts _ (List.mem_cons_of_mem _ qX4_f17)) (fun _ h9 => h9) rfl (by decide +kernel) rfl rfl (Nat.le_of_ble_eq_true rfl) dX4_setAlarm_15 (fun H locs hP hD hS => ?_)
  replace hP : va_P D se_cl (se_WS k h (se_u (se_u g 5 1 1) 5 2 ((g 5 0) + (g 5 4)))) H := hP
  replace hD : va_D A (se_WS k h (se_u (se_u g 5 1 1) 5 2 ((g 5 0) + (g 5 4)))) := hD
  exact se_rv hx hb hr hlocks hK hP hD hS dX4_setAlarm_18 (by rw [F_S_Watch_setAlarm])
set_option maxRecDepth 100000 in
set_option maxHeartbeats 4000000 in
theorem c_S_watchClosedWindow (l : Launch) (D : va_G) (k : Nat → ClassId) (h : Nat → Nat) (sz : Nat) (g : se_G)  : Met l yX5_watchClosedWindow (se_w_X5_watchClosedWindow) ({ frames := 2, cells := 0, slots := 0, locals := 40 }) (va_Pc [.ref (h 0)] (se_Pre D se_cl [(k 2, .byte), (k 4, .int), (k 8, .byte), (k 10, .byte)] (se_WS k h g) se_ZN sz)) (se_Qv D se_cl [(k 2, .byte), (k 4, .int), (k 8, .byte), (k 10, .byte)] (se_WS k h) (F_S_watchClosedWindow g) (va_A (se_WS k h g) sz)) 0 0 (va_A (se_WS k h g) sz) := by
  refine se_met (Qc := se_Qv D se_cl [(k 2, .byte), (k 4, .int), (k 8, .byte), (k 10, .byte)] (se_WS k h) (F_S_watchClosedWindow g)) (cc := cX5_watchClosedWindow) (maxL := 1) (ret := none) (by decide) rfl (Nat.le_of_ble_eq_true rfl) ?_
  intro p e s m below meth c ls A hx hb hr hts hown hlocks hml hA hP hK hD hS hZ hl
  replace hl : lv_has ls 1 [(0, .ref (h 0))] := hl
  have hF : F_S_watchClosedWindow g = F_S_watchClosedWindow g := rfl
  refine lv_aload_n hx hb dX5_watchClosedWindow_0 rfl (lv_at hl 0 rfl) ?_
  refine se_cp (va_runV (C := RX5) (As := []) (rest := []) ⟨hx, hb, hml, hown, hts⟩ (c_S_maySendNew l D k h _ g) (se_kV 0 hts q_code_X5_maySendNew qX5_m185 q_ini_StreamEnd q_instanceMethod_X5_maySendNew q_sel_X5_maySendNew (by decide +kernel) ⟨Nat.le_of_ble_eq_true rfl, Nat.le_of_ble_eq_true rfl⟩ rfl rfl) ⟨se_blind se_ZN_ok, va_recv hK hP (ci := 5) (q0 := 0) rfl rfl, se_pre se_ZN_ok hP hK hD hZ⟩ rfl rfl hl.1 rfl (lv_room (Nat.le_of_ble_eq_true rfl)) dX5_watchClosedWindow_1 ⟨Nat.zero_le _, Nat.zero_le _⟩) hD hS hA (fun H locs hP hD hS => ?_)
  refine lv_if_eq (tgt := 54) hx hb dX5_watchClosedWindow_4 (by decide) (fun c1 => ?_) (fun c1 => ?_)
  · exact se_rv hx hb hr hlocks hK hP hD hS dX5_watchClosedWindow_54 (by rw [F_S_watchClosedWindow, if_pos c1])
  · refine lv_aload_n hx hb dX5_watchClosedWindow_7 rfl (lv_at hl 0 rfl) ?_
    refine va_get (D := D) (ci := 5) (v := .ref (h 5)) (C := RX5) (T := TX5) (N := 12) hx hb hts (se_iw iwX5) hown hK hP 0 rfl rfl 4 (by decide) (hts _ (List.mem_cons_of_mem _ qX5_f35)) (fun _ h9 => h9) rfl dX5_watchClosedWindow_8 ?_
    refine va_getN (D := D) (ci := 4) (v := .int (g 5 1)) (C := RX4) (T := TX4) (N := 11) hx hb hts (se_iw iwX4) hown hK hP 5 rfl rfl 1 (by decide) (va_Nw.use rfl (hZ _ nX5_f155 rfl)) (fun _ h9 => h9) rfl dX5_watchClosedWindow_11 ?_
    refine lv_if_ne (tgt := 54) hx hb dX5_watchClosedWindow_14 (by decide) (fun c2 => ?_) (fun c2 => ?_)
    · exact se_rv hx hb hr hlocks hK hP hD hS dX5_watchClosedWindow_54 (by rw [F_S_watchClosedWindow, if_neg c1, if_neg c2])
    · refine lv_aload_n hx hb dX5_watchClosedWindow_17 rfl (lv_at hl 0 rfl) ?_
      refine va_get (D := D) (ci := 5) (v := .ref (h 1)) (C := RX5) (T := TX5) (N := 12) hx hb hts (se_iw iwX5) hown hK hP 0 rfl rfl 2 (by decide) (hts _ (List.mem_cons_of_mem _ qX5_f21)) (fun _ h9 => h9) rfl dX5_watchClosedWindow_18 ?_
      refine se_cp (va_runVN (C := RX2) (As := []) (rest := []) ⟨hx, hb, hml, hown, hts⟩ (c_S_Outgoing_hasUnthanked l D k h _ g) (se_kVN 0 hts q_code_X2_hasUnthanked (hZ _ nX5_m317 rfl) q_ini_StreamEnd_Outgoing q_instanceMethod_X2_hasUnthanked q_sel_X2_hasUnthanked (by decide +kernel) ⟨Nat.le_of_ble_eq_true rfl, Nat.le_of_ble_eq_true rfl⟩ rfl rfl) ⟨se_blind se_ZN_ok, va_recv hK hP (ci := 2) (q0 := 1) rfl rfl, se_pre se_ZN_ok hP hK hD hZ⟩ rfl rfl hl.1 rfl (lv_room (Nat.le_of_ble_eq_true rfl)) dX5_watchClosedWindow_21 ⟨Nat.zero_le _, Nat.zero_le _⟩) hD hS hA (fun H locs hP hD hS => ?_)
      refine lv_if_ne (tgt := 54) hx hb dX5_watchClosedWindow_24 (by decide) (fun c3 => ?_) (fun c3 => ?_)
      · exact se_rv hx hb hr hlocks hK hP hD hS dX5_watchClosedWindow_54 (by rw [F_S_watchClosedWindow, if_neg c1, if_pos c2, if_neg c3])
      · refine lv_aload_n hx hb dX5_watchClosedWindow_27 rfl (lv_at hl 0 rfl) ?_
        refine va_get (D := D) (ci := 5) (v := .ref (h 1)) (C := RX5) (T := TX5) (N := 12) hx hb hts (se_iw iwX5) hown hK hP 0 rfl rfl 2 (by decide) (hts _ (List.mem_cons_of_mem _ qX5_f21)) (fun _ h9 => h9) rfl dX5_watchClosedWindow_28 ?_
        refine va_getN (D := D) (ci := 2) (v := .int (g 1 10)) (C := RX2) (T := TX2) (N := 13) hx hb hts (se_iw iwX2) hown hK hP 1 rfl rfl 10 (by decide) (va_Nw.use rfl (hZ _ nX5_f262 rfl)) (fun _ h9 => h9) rfl dX5_watchClosedWindow_31 ?_
        refine lv_if_ne (tgt := 54) hx hb dX5_watchClosedWindow_34 (by decide) (fun c4 => ?_) (fun c4 => ?_)
        · exact se_rv hx hb hr hlocks hK hP hD hS dX5_watchClosedWindow_54 (by rw [F_S_watchClosedWindow, if_neg c1, if_pos c2, if_pos c3, if_neg c4])
        · refine lv_aload_n hx hb dX5_watchClosedWindow_37 rfl (lv_at hl 0 rfl) ?_
          refine va_get (D := D) (ci := 5) (v := .ref (h 1)) (C := RX5) (T := TX5) (N := 12) hx hb hts (se_iw iwX5) hown hK hP 0 rfl rfl 2 (by decide) (hts _ (List.mem_cons_of_mem _ qX5_f21)) (fun _ h9 => h9) rfl dX5_watchClosedWindow_38 ?_
          refine se_cp (va_runVN (C := RX2) (As := []) (rest := []) ⟨hx, hb, hml, hown, hts⟩ (c_S_Outgoing_hasNew l D k h _ g) (se_kVN 0 hts q_code_X2_hasNew (hZ _ nX5_m326 rfl) q_ini_StreamEnd_Outgoing q_instanceMethod_X2_hasNew q_sel_X2_hasNew (by decide +kernel) ⟨Nat.le_of_ble_eq_true rfl, Nat.le_of_ble_eq_true rfl⟩ rfl rfl) ⟨se_blind se_ZN_ok, va_recv hK hP (ci := 2) (q0 := 1) rfl rfl, se_pre se_ZN_ok hP hK hD hZ⟩ rfl rfl hl.1 rfl (lv_room (Nat.le_of_ble_eq_true rfl)) dX5_watchClosedWindow_41 ⟨Nat.zero_le _, Nat.zero_le _⟩) hD hS hA (fun H locs hP hD hS => ?_)
          refine lv_if_eq (tgt := 54) hx hb dX5_watchClosedWindow_44 (by decide) (fun c5 => ?_) (fun c5 => ?_)
          · exact se_rv hx hb hr hlocks hK hP hD hS dX5_watchClosedWindow_54 (by rw [F_S_watchClosedWindow, if_neg c1, if_pos c2, if_pos c3, if_pos c4, if_pos c5])
          · refine lv_aload_n hx hb dX5_watchClosedWindow_47 rfl (lv_at hl 0 rfl) ?_
            refine va_get (D := D) (ci := 5) (v := .ref (h 5)) (C := RX5) (T := TX5) (N := 12) hx hb hts (se_iw iwX5) hown hK hP 0 rfl rfl 4 (by decide) (hts _ (List.mem_cons_of_mem _ qX5_f35)) (fun _ h9 => h9) rfl dX5_watchClosedWindow_48 ?_
            refine se_cvE (va_runVN (C := RX4) (As := []) (rest := []) ⟨hx, hb, hml, hown, hts⟩ (c_S_Watch_setAlarm l D k h _ g) (se_kVN 0 hts q_code_X4_setAlarm (hZ _ nX5_m323 rfl) q_ini_StreamEnd_Watch q_instanceMethod_X4_setAlarm q_sel_X4_setAlarm (by decide +kernel) ⟨Nat.le_of_ble_eq_true rfl, Nat.le_of_ble_eq_true rfl⟩ rfl rfl) ⟨se_blind se_ZN_ok, va_recv hK hP (ci := 4) (q0 := 5) rfl rfl, se_pre se_ZN_ok hP hK hD hZ⟩ rfl rfl hl.1 rfl (lv_room (Nat.le_of_ble_eq_true rfl)) dX5_watchClosedWindow_51 ⟨Nat.zero_le _, Nat.zero_le _⟩) hD hS hA (fun g1 H locs eg1 hP hD hS => ?_)
            exact se_rv hx hb hr hlocks hK hP hD hS dX5_watchClosedWindow_54 (by subst eg1; rw [F_S_watchClosedWindow, if_neg c1, if_pos c2, if_pos c3, if_pos c4, if_neg c5])
set_option maxRecDepth 100000 in
set_option maxHeartbeats 4000000 in
theorem c_S_byteOf (l : Launch) (D : va_G) (k : Nat → ClassId) (h : Nat → Nat) (sz : Nat) (g : se_G) (p0 : Int64) (p2 : Int32) (p3 : Int32) : Met l yX5_byteOf (se_w_X5_byteOf) ({ frames := 0, cells := 0, slots := 0, locals := 0 }) (va_Pc [.long p0, .int p2, .int p3] (se_Pre D se_cl [(k 2, .byte), (k 4, .int), (k 8, .byte), (k 10, .byte)] (se_WS k h g) se_ZN sz)) (se_Qp D se_cl [(k 2, .byte), (k 4, .int), (k 8, .byte), (k 10, .byte)] (se_WS k h) (F_S_byteOf p0 p2 p3) g (va_A (se_WS k h g) sz)) 0 0 (va_A (se_WS k h g) sz) := by
  refine se_met (Qc := se_Qp D se_cl [(k 2, .byte), (k 4, .int), (k 8, .byte), (k 10, .byte)] (se_WS k h) (F_S_byteOf p0 p2 p3) g) (cc := cX5_byteOf) (maxL := 4) (ret := (some .byte)) (by decide) rfl (Nat.le_of_ble_eq_true rfl) ?_
  intro p e s m below meth c ls A hx hb hr hts hown hlocks hml hA hP hK hD hS hZ hl
  replace hl : lv_has ls 4 [(0, .long p0), (2, .int p2), (3, .int p3)] := hl
  have hF : F_S_byteOf p0 p2 p3 = F_S_byteOf p0 p2 p3 := rfl
  refine lv_lload_n hx hb dX5_byteOf_0 rfl (lv_at hl 0 rfl) ?_
  refine lv_bipush (v := 8) hx hb dX5_byteOf_1 (by decide) ?_
  refine lv_iload_n hx hb dX5_byteOf_3 rfl (lv_at hl 1 rfl) ?_
  refine lv_iconst (v := 1) hx hb dX5_byteOf_4 (by decide) ?_
  refine lv_isub hx hb dX5_byteOf_5 ?_
  refine lv_iload_n hx hb dX5_byteOf_6 rfl (lv_at hl 2 rfl) ?_
  refine lv_isub hx hb dX5_byteOf_7 ?_
  refine lv_imul hx hb dX5_byteOf_8 ?_
  refine lv_lushr (v := (Int64.toUInt64 p0 >>> (Int64.toUInt64 (Int32.toInt64 (8 * ((p2 - 1) - p3))) &&& Int64.toUInt64 63)).toInt64) hx hb dX5_byteOf_9 rfl ?_
  refine lv_l2i (v := (Int64.toInt32 ((Int64.toUInt64 p0 >>> (Int64.toUInt64 (Int32.toInt64 (8 * ((p2 - 1) - p3))) &&& Int64.toUInt64 63)).toInt64))) hx hb dX5_byteOf_10 rfl ?_
  refine lv_i2b (v := (Int8.toInt32 (Int32.toInt8 (Int64.toInt32 ((Int64.toUInt64 p0 >>> (Int64.toUInt64 (Int32.toInt64 (8 * ((p2 - 1) - p3))) &&& Int64.toUInt64 63)).toInt64))))) hx hb dX5_byteOf_11 rfl ?_
  exact se_rpz hx hb hr (pk_nb _) hlocks hK hP hD hS dX5_byteOf_12 (by rw [F_S_byteOf])
set_option maxRecDepth 100000 in
set_option maxHeartbeats 4000000 in
theorem c_S_Outgoing_append (l : Launch) (D : va_G) (k : Nat → ClassId) (h : Nat → Nat) (sz : Nat) (g : se_G) (p1 : Int32) : Met l yX2_append (se_w_X2_append) ({ frames := 0, cells := 0, slots := 0, locals := 0 }) (va_Pc [.ref (h 1), .int p1] (se_Pre D se_cl [(k 2, .byte), (k 4, .int), (k 8, .byte), (k 10, .byte)] (se_WS k h g) se_ZN sz)) (se_Qv D se_cl [(k 2, .byte), (k 4, .int), (k 8, .byte), (k 10, .byte)] (se_WS k h) (F_S_Outgoing_append g p1) (va_A (se_WS k h g) sz)) 0 0 (va_A (se_WS k h g) sz) := by
  refine se_met (Qc := se_Qv D se_cl [(k 2, .byte), (k 4, .int), (k 8, .byte), (k 10, .byte)] (se_WS k h) (F_S_Outgoing_append g p1)) (cc := cX2_append) (maxL := 2) (ret := none) (by decide) rfl (Nat.le_of_ble_eq_true rfl) ?_
  intro p e s m below meth c ls A hx hb hr hts hown hlocks hml hA hP hK hD hS hZ hl
  replace hl : lv_has ls 2 [(0, .ref (h 1)), (1, .int p1)] := hl
  have hF : F_S_Outgoing_append g p1 = F_S_Outgoing_append g p1 := rfl
  refine lv_aload_n hx hb dX2_append_0 rfl (lv_at hl 0 rfl) ?_
  refine va_get (D := D) (ci := 2) (v := .ref (h 2)) (C := RX2) (T := TX2) (N := 13) hx hb hts (se_iw iwX2) hown hK hP 1 rfl rfl 0 (by decide) (hts _ (List.mem_cons_of_mem _ qX2_f9)) (fun _ h9 => h9) rfl dX2_append_1 ?_
  refine lv_aload_n hx hb dX2_append_4 rfl (lv_at hl 0 rfl) ?_
  refine va_get (D := D) (ci := 2) (v := .int (g 1 1)) (C := RX2) (T := TX2) (N := 13) hx hb hts (se_iw iwX2) hown hK hP 1 rfl rfl 1 (by decide) (hts _ (List.mem_cons_of_mem _ qX2_f19)) (fun _ h9 => h9) rfl dX2_append_5 ?_
  refine lv_aload_n hx hb dX2_append_8 rfl (lv_at hl 0 rfl) ?_
  refine va_get (D := D) (ci := 2) (v := .int (g 1 2)) (C := RX2) (T := TX2) (N := 13) hx hb hts (se_iw iwX2) hown hK hP 1 rfl rfl 2 (by decide) (hts _ (List.mem_cons_of_mem _ qX2_f22)) (fun _ h9 => h9) rfl dX2_append_9 ?_
  refine lv_iadd hx hb dX2_append_12 ?_
  refine lv_sipush (v := 2047) hx hb dX2_append_13 (by decide) ?_
  refine lv_iand hx hb dX2_append_16 ?_
  refine lv_iload_n hx hb dX2_append_17 rfl (lv_at hl 1 rfl) ?_
  refine va_bast hx hb hK hP hD hS 2 0 rfl rfl (pk_andIn _ 11 (by decide) (by decide)) dX2_append_18 (fun H locs hP hD hS => ?_)
  replace hP : va_P D se_cl (se_WS k h (se_u g 2 (Int32.toNatClampNeg (((g 1 1) + (g 1 2)) &&& 2047)) (vp_nar .byte p1))) H := hP
  replace hD : va_D A (se_WS k h (se_u g 2 (Int32.toNatClampNeg (((g 1 1) + (g 1 2)) &&& 2047)) (vp_nar .byte p1))) := hD
  refine lv_aload_n hx hb dX2_append_19 rfl (lv_at hl 0 rfl) ?_
  refine lv_dup hx hb dX2_append_20 rfl ?_
  refine va_get (D := D) (ci := 2) (v := .int (g 1 2)) (C := RX2) (T := TX2) (N := 13) hx hb hts (se_iw iwX2) hown hK hP 1 rfl rfl 2 (by decide) (hts _ (List.mem_cons_of_mem _ qX2_f22)) (fun _ h9 => h9) rfl dX2_append_21 ?_
  refine lv_iconst (v := 1) hx hb dX2_append_24 (by decide) ?_
  refine lv_iadd hx hb dX2_append_25 ?_
  refine va_put (D := D) (ci := 2) (v := .int ((g 1 2) + 1)) (ty := .int) (C := RX2) (T := TX2) (N := 13) hx hb hts (se_iw iwX2) tyX2 tyX2_ok nmX2 hown hK hP hD hS 1 rfl rfl 2 (by decide) (hts _ (List.mem_cons_of_mem _ qX2_f22)) (fun _ h9 => h9) rfl (by decide +kernel) rfl rfl (Nat.le_of_ble_eq_true rfl) dX2_append_26 (fun H locs hP hD hS => ?_)
  replace hP : va_P D se_cl (se_WS k h (se_u (se_u g 2 (Int32.toNatClampNeg (((g 1 1) + (g 1 2)) &&& 2047)) (vp_nar .byte p1)) 1 2 ((g 1 2) + 1))) H := hP
  replace hD : va_D A (se_WS k h (se_u (se_u g 2 (Int32.toNatClampNeg (((g 1 1) + (g 1 2)) &&& 2047)) (vp_nar .byte p1)) 1 2 ((g 1 2) + 1))) := hD
  exact se_rv hx hb hr hlocks hK hP hD hS dX2_append_29 (by rw [F_S_Outgoing_append])
set_option maxRecDepth 100000 in
set_option maxHeartbeats 4000000 in
theorem c_S_Incoming_room (l : Launch) (D : va_G) (k : Nat → ClassId) (h : Nat → Nat) (sz : Nat) (g : se_G)  : Met l yX1_room (se_w_X1_room) ({ frames := 0, cells := 0, slots := 0, locals := 0 }) (va_Pc [.ref (h 3)] (se_Pre D se_cl [(k 2, .byte), (k 4, .int), (k 8, .byte), (k 10, .byte)] (se_WS k h g) se_ZN sz)) (se_Qp D se_cl [(k 2, .byte), (k 4, .int), (k 8, .byte), (k 10, .byte)] (se_WS k h) (F_S_Incoming_room g) g (va_A (se_WS k h g) sz)) 0 0 (va_A (se_WS k h g) sz) := by
  refine se_met (Qc := se_Qp D se_cl [(k 2, .byte), (k 4, .int), (k 8, .byte), (k 10, .byte)] (se_WS k h) (F_S_Incoming_room g) g) (cc := cX1_room) (maxL := 1) (ret := (some .int)) (by decide) rfl (Nat.le_of_ble_eq_true rfl) ?_
  intro p e s m below meth c ls A hx hb hr hts hown hlocks hml hA hP hK hD hS hZ hl
  replace hl : lv_has ls 1 [(0, .ref (h 3))] := hl
  have hF : F_S_Incoming_room g = F_S_Incoming_room g := rfl
  refine lv_sipush (v := 2048) hx hb dX1_room_0 (by decide) ?_
  refine lv_aload_n hx hb dX1_room_3 rfl (lv_at hl 0 rfl) ?_
  refine va_get (D := D) (ci := 1) (v := .int (g 3 3)) (C := RX1) (T := TX1) (N := 8) hx hb hts (se_iw iwX1) hown hK hP 3 rfl rfl 3 (by decide) (hts _ (List.mem_cons_of_mem _ qX1_f29)) (fun _ h9 => h9) rfl dX1_room_4 ?_
  refine lv_isub hx hb dX1_room_7 ?_
  exact se_rp hx hb hr  hlocks hK hP hD hS dX1_room_8 (by rw [F_S_Incoming_room])
set_option maxRecDepth 100000 in
set_option maxHeartbeats 4000000 in
theorem c_S_Incoming_takeByte (l : Launch) (D : va_G) (k : Nat → ClassId) (h : Nat → Nat) (sz : Nat) (g : se_G)  : Met l yX1_takeByte (se_w_X1_takeByte) ({ frames := 0, cells := 0, slots := 0, locals := 0 }) (va_Pc [.ref (h 3)] (se_Pre D se_cl [(k 2, .byte), (k 4, .int), (k 8, .byte), (k 10, .byte)] (se_WS k h g) se_ZN sz)) (se_Qi D se_cl [(k 2, .byte), (k 4, .int), (k 8, .byte), (k 10, .byte)] (se_WS k h) (F_S_Incoming_takeByte g) (va_A (se_WS k h g) sz)) 0 0 (va_A (se_WS k h g) sz) := by
  refine se_met (Qc := se_Qi D se_cl [(k 2, .byte), (k 4, .int), (k 8, .byte), (k 10, .byte)] (se_WS k h) (F_S_Incoming_takeByte g)) (cc := cX1_takeByte) (maxL := 3) (ret := (some .int)) (by decide) rfl (Nat.le_of_ble_eq_true rfl) ?_
  intro p e s m below meth c ls A hx hb hr hts hown hlocks hml hA hP hK hD hS hZ hl
  replace hl : lv_has ls 3 [(0, .ref (h 3))] := hl
  have hF : F_S_Incoming_takeByte g = F_S_Incoming_takeByte g := rfl
  refine lv_aload_n hx hb dX1_takeByte_0 rfl (lv_at hl 0 rfl) ?_
  refine va_get (D := D) (ci := 1) (v := .int (g 3 4)) (C := RX1) (T := TX1) (N := 8) hx hb hts (se_iw iwX1) hown hK hP 3 rfl rfl 4 (by decide) (hts _ (List.mem_cons_of_mem _ qX1_f32)) (fun _ h9 => h9) rfl dX1_takeByte_1 ?_
  refine lv_sipush (v := 2047) hx hb dX1_takeByte_4 (by decide) ?_
  refine lv_iand hx hb dX1_takeByte_7 ?_
  refine lv_istore_n (lv' := [(1, .int ((g 3 4) &&& 2047)), (0, .ref (h 3))]) hx hb dX1_takeByte_8 rfl hl (by decide) rfl (fun ls hl => ?_)
  refine lv_aload_n hx hb dX1_takeByte_9 rfl (lv_at hl 1 rfl) ?_
  refine va_get (D := D) (ci := 1) (v := .ref (h 4)) (C := RX1) (T := TX1) (N := 8) hx hb hts (se_iw iwX1) hown hK hP 3 rfl rfl 0 (by decide) (hts _ (List.mem_cons_of_mem _ qX1_f9)) (fun _ h9 => h9) rfl dX1_takeByte_10 ?_
  refine lv_iload_n hx hb dX1_takeByte_13 rfl (lv_at hl 0 rfl) ?_
  refine va_iald hx hb hK hP 4 1 rfl rfl (pk_andIn _ 11 (by decide) (by decide)) dX1_takeByte_14 ?_
  refine lv_istore_n (lv' := [(2, .int (g 4 (Int32.toNatClampNeg ((g 3 4) &&& 2047)))), (1, .int ((g 3 4) &&& 2047)), (0, .ref (h 3))]) hx hb dX1_takeByte_15 rfl hl (by decide) rfl (fun ls hl => ?_)
  refine lv_aload_n hx hb dX1_takeByte_16 rfl (lv_at hl 2 rfl) ?_
  refine va_get (D := D) (ci := 1) (v := .ref (h 4)) (C := RX1) (T := TX1) (N := 8) hx hb hts (se_iw iwX1) hown hK hP 3 rfl rfl 0 (by decide) (hts _ (List.mem_cons_of_mem _ qX1_f9)) (fun _ h9 => h9) rfl dX1_takeByte_17 ?_
  refine lv_iload_n hx hb dX1_takeByte_20 rfl (lv_at hl 1 rfl) ?_
  refine lv_iconst (v := (-1)) hx hb dX1_takeByte_21 (by decide) ?_
  refine va_iast hx hb hK hP hD hS 4 1 rfl rfl (pk_andIn _ 11 (by decide) (by decide)) dX1_takeByte_22 (fun H locs hP hD hS => ?_)
  replace hP : va_P D se_cl (se_WS k h (se_u g 4 (Int32.toNatClampNeg ((g 3 4) &&& 2047)) (-1))) H := hP
  replace hD : va_D A (se_WS k h (se_u g 4 (Int32.toNatClampNeg ((g 3 4) &&& 2047)) (-1))) := hD
  refine lv_aload_n hx hb dX1_takeByte_23 rfl (lv_at hl 2 rfl) ?_
  refine lv_dup hx hb dX1_takeByte_24 rfl ?_
  refine va_get (D := D) (ci := 1) (v := .int (g 3 4)) (C := RX1) (T := TX1) (N := 8) hx hb hts (se_iw iwX1) hown hK hP 3 rfl rfl 4 (by decide) (hts _ (List.mem_cons_of_mem _ qX1_f32)) (fun _ h9 => h9) rfl dX1_takeByte_25 ?_
  refine lv_iconst (v := 1) hx hb dX1_takeByte_28 (by decide) ?_
  refine lv_iadd hx hb dX1_takeByte_29 ?_
  refine va_put (D := D) (ci := 1) (v := .int ((g 3 4) + 1)) (ty := .int) (C := RX1) (T := TX1) (N := 8) hx hb hts (se_iw iwX1) tyX1 tyX1_ok nmX1 hown hK hP hD hS 3 rfl rfl 4 (by decide) (hts _ (List.mem_cons_of_mem _ qX1_f32)) (fun _ h9 => h9) rfl (by decide +kernel) rfl rfl (Nat.le_of_ble_eq_true rfl) dX1_takeByte_30 (fun H locs hP hD hS => ?_)
  replace hP : va_P D se_cl (se_WS k h (se_u (se_u g 4 (Int32.toNatClampNeg ((g 3 4) &&& 2047)) (-1)) 3 4 ((g 3 4) + 1))) H := hP
  replace hD : va_D A (se_WS k h (se_u (se_u g 4 (Int32.toNatClampNeg ((g 3 4) &&& 2047)) (-1)) 3 4 ((g 3 4) + 1))) := hD
  refine lv_aload_n hx hb dX1_takeByte_33 rfl (lv_at hl 2 rfl) ?_
  refine lv_dup hx hb dX1_takeByte_34 rfl ?_
  refine va_get (D := D) (ci := 1) (v := .int (g 3 3)) (C := RX1) (T := TX1) (N := 8) hx hb hts (se_iw iwX1) hown hK hP 3 rfl rfl 3 (by decide) (hts _ (List.mem_cons_of_mem _ qX1_f29)) (fun _ h9 => h9) rfl dX1_takeByte_35 ?_
  refine lv_iconst (v := 1) hx hb dX1_takeByte_38 (by decide) ?_
  refine lv_isub hx hb dX1_takeByte_39 ?_
  refine va_put (D := D) (ci := 1) (v := .int ((g 3 3) - 1)) (ty := .int) (C := RX1) (T := TX1) (N := 8) hx hb hts (se_iw iwX1) tyX1 tyX1_ok nmX1 hown hK hP hD hS 3 rfl rfl 3 (by decide) (hts _ (List.mem_cons_of_mem _ qX1_f29)) (fun _ h9 => h9) rfl (by decide +kernel) rfl rfl (Nat.le_of_ble_eq_true rfl) dX1_takeByte_40 (fun H locs hP hD hS => ?_)
  replace hP : va_P D se_cl (se_WS k h (se_u (se_u (se_u g 4 (Int32.toNatClampNeg ((g 3 4) &&& 2047)) (-1)) 3 4 ((g 3 4) + 1)) 3 3 ((g 3 3) - 1))) H := hP
  replace hD : va_D A (se_WS k h (se_u (se_u (se_u g 4 (Int32.toNatClampNeg ((g 3 4) &&& 2047)) (-1)) 3 4 ((g 3 4) + 1)) 3 3 ((g 3 3) - 1))) := hD
  refine lv_iload_n hx hb dX1_takeByte_43 rfl (lv_at hl 0 rfl) ?_
  exact se_ri hx hb hr  hlocks hK hP hD hS dX1_takeByte_44 (by rw [F_S_Incoming_takeByte])
set_option maxRecDepth 100000 in
set_option maxHeartbeats 4000000 in
theorem c_S_mayTakeBytes (l : Launch) (D : va_G) (k : Nat → ClassId) (h : Nat → Nat) (sz : Nat) (g : se_G)  : Met l yX5_mayTakeBytes (se_w_X5_mayTakeBytes) ({ frames := 0, cells := 0, slots := 0, locals := 0 }) (va_Pc [.ref (h 0)] (se_Pre D se_cl [(k 2, .byte), (k 4, .int), (k 8, .byte), (k 10, .byte)] (se_WS k h g) se_ZN sz)) (se_Qp D se_cl [(k 2, .byte), (k 4, .int), (k 8, .byte), (k 10, .byte)] (se_WS k h) (F_S_mayTakeBytes g) g (va_A (se_WS k h g) sz)) 0 0 (va_A (se_WS k h g) sz) := by
  refine se_met (Qc := se_Qp D se_cl [(k 2, .byte), (k 4, .int), (k 8, .byte), (k 10, .byte)] (se_WS k h) (F_S_mayTakeBytes g) g) (cc := cX5_mayTakeBytes) (maxL := 1) (ret := (some .boolean)) (by decide) rfl (Nat.le_of_ble_eq_true rfl) ?_
  intro p e s m below meth c ls A hx hb hr hts hown hlocks hml hA hP hK hD hS hZ hl
  replace hl : lv_has ls 1 [(0, .ref (h 0))] := hl
  have hF : F_S_mayTakeBytes g = F_S_mayTakeBytes g := rfl
  refine lv_aload_n hx hb dX5_mayTakeBytes_0 rfl (lv_at hl 0 rfl) ?_
  refine va_get (D := D) (ci := 5) (v := .int (g 0 9)) (C := RX5) (T := TX5) (N := 12) hx hb hts (se_iw iwX5) hown hK hP 0 rfl rfl 9 (by decide) (hts _ (List.mem_cons_of_mem _ qX5_f60)) (fun _ h9 => h9) rfl dX5_mayTakeBytes_1 ?_
  refine lv_iconst (v := 4) hx hb dX5_mayTakeBytes_4 (by decide) ?_
  refine lv_icmp_eq (tgt := 25) hx hb dX5_mayTakeBytes_5 (by decide) (fun c1 => ?_) (fun c1 => ?_)
  · refine lv_iconst (v := 1) hx hb dX5_mayTakeBytes_25 (by decide) ?_
    refine lv_goto (tgt := 30) hx hb dX5_mayTakeBytes_26 (by decide) ?_
    exact se_rpz hx hb hr rfl hlocks hK hP hD hS dX5_mayTakeBytes_30 (by rw [F_S_mayTakeBytes, if_pos c1])
  · refine lv_aload_n hx hb dX5_mayTakeBytes_8 rfl (lv_at hl 0 rfl) ?_
    refine va_get (D := D) (ci := 5) (v := .int (g 0 9)) (C := RX5) (T := TX5) (N := 12) hx hb hts (se_iw iwX5) hown hK hP 0 rfl rfl 9 (by decide) (hts _ (List.mem_cons_of_mem _ qX5_f60)) (fun _ h9 => h9) rfl dX5_mayTakeBytes_9 ?_
    refine lv_iconst (v := 5) hx hb dX5_mayTakeBytes_12 (by decide) ?_
    refine lv_icmp_eq (tgt := 25) hx hb dX5_mayTakeBytes_13 (by decide) (fun c2 => ?_) (fun c2 => ?_)
    · refine lv_iconst (v := 1) hx hb dX5_mayTakeBytes_25 (by decide) ?_
      refine lv_goto (tgt := 30) hx hb dX5_mayTakeBytes_26 (by decide) ?_
      exact se_rpz hx hb hr rfl hlocks hK hP hD hS dX5_mayTakeBytes_30 (by rw [F_S_mayTakeBytes, if_neg c1, if_pos c2])
    · refine lv_aload_n hx hb dX5_mayTakeBytes_16 rfl (lv_at hl 0 rfl) ?_
      refine va_get (D := D) (ci := 5) (v := .int (g 0 9)) (C := RX5) (T := TX5) (N := 12) hx hb hts (se_iw iwX5) hown hK hP 0 rfl rfl 9 (by decide) (hts _ (List.mem_cons_of_mem _ qX5_f60)) (fun _ h9 => h9) rfl dX5_mayTakeBytes_17 ?_
      refine lv_bipush (v := 6) hx hb dX5_mayTakeBytes_20 (by decide) ?_
      refine lv_icmp_ne (tgt := 29) hx hb dX5_mayTakeBytes_22 (by decide) (fun c3 => ?_) (fun c3 => ?_)
      · refine lv_iconst (v := 0) hx hb dX5_mayTakeBytes_29 (by decide) ?_
        exact se_rpz hx hb hr rfl hlocks hK hP hD hS dX5_mayTakeBytes_30 (by rw [F_S_mayTakeBytes, if_neg c1, if_neg c2, if_neg c3])
      · refine lv_iconst (v := 1) hx hb dX5_mayTakeBytes_25 (by decide) ?_
        refine lv_goto (tgt := 30) hx hb dX5_mayTakeBytes_26 (by decide) ?_
        exact se_rpz hx hb hr rfl hlocks hK hP hD hS dX5_mayTakeBytes_30 (by rw [F_S_mayTakeBytes, if_neg c1, if_neg c2, if_pos c3])
set_option maxRecDepth 100000 in
set_option maxHeartbeats 4000000 in
theorem c_S_readByte (l : Launch) (D : va_G) (k : Nat → ClassId) (h : Nat → Nat) (sz : Nat) (g : se_G)  : Met l yX5_readByte (se_w_X5_readByte) ({ frames := 1, cells := 0, slots := 0, locals := 22 }) (va_Pc [.ref (h 0)] (se_Pre D se_cl [(k 2, .byte), (k 4, .int), (k 8, .byte), (k 10, .byte)] (se_WS k h g) se_ZN sz)) (se_Qi D se_cl [(k 2, .byte), (k 4, .int), (k 8, .byte), (k 10, .byte)] (se_WS k h) (F_S_readByte g) (va_A (se_WS k h g) sz)) 0 0 (va_A (se_WS k h g) sz) := by
  refine se_met (Qc := se_Qi D se_cl [(k 2, .byte), (k 4, .int), (k 8, .byte), (k 10, .byte)] (se_WS k h) (F_S_readByte g)) (cc := cX5_readByte) (maxL := 4) (ret := (some .int)) (by decide) rfl (Nat.le_of_ble_eq_true rfl) ?_
  intro p e s m below meth c ls A hx hb hr hts hown hlocks hml hA hP hK hD hS hZ hl
  replace hl : lv_has ls 4 [(0, .ref (h 0))] := hl
  have hF : F_S_readByte g = F_S_readByte g := rfl
  refine lv_aload_n hx hb dX5_readByte_0 rfl (lv_at hl 0 rfl) ?_
  refine va_get (D := D) (ci := 5) (v := .ref (h 1)) (C := RX5) (T := TX5) (N := 12) hx hb hts (se_iw iwX5) hown hK hP 0 rfl rfl 2 (by decide) (hts _ (List.mem_cons_of_mem _ qX5_f21)) (fun _ h9 => h9) rfl dX5_readByte_1 ?_
  refine va_getN (D := D) (ci := 2) (v := .int (g 1 9)) (C := RX2) (T := TX2) (N := 13) hx hb hts (se_iw iwX2) hown hK hP 1 rfl rfl 9 (by decide) (va_Nw.use rfl (hZ _ nX5_f273 rfl)) (fun _ h9 => h9) rfl dX5_readByte_4 ?_
  refine lv_sipush (v := 1024) hx hb dX5_readByte_7 (by decide) ?_
  refine va_mmin hx hb (hml.trans hl.1.symm) hown (hts _ (List.mem_cons_of_mem _ qX5_m102)) (hts _ (List.mem_cons_of_mem _ q_static_Math_min)) (hts _ (List.mem_cons_of_mem _ q_ini_java_lang_Math)) (hts _ (List.mem_cons_of_mem _ q_code_Math_min)) (Nat.le_of_ble_eq_true rfl) (Nat.le_of_ble_eq_true rfl) (Nat.zero_le _) (Nat.zero_le _) dX5_readByte_10 ?_
  refine lv_istore_n (lv' := [(1, .int (if 1024 < (g 1 9) then 1024 else (g 1 9))), (0, .ref (h 0))]) hx hb dX5_readByte_13 rfl hl (by decide) rfl (fun ls hl => ?_)
  refine lv_aload_n hx hb dX5_readByte_14 rfl (lv_at hl 1 rfl) ?_
  refine va_get (D := D) (ci := 5) (v := .ref (h 3)) (C := RX5) (T := TX5) (N := 12) hx hb hts (se_iw iwX5) hown hK hP 0 rfl rfl 3 (by decide) (hts _ (List.mem_cons_of_mem _ qX5_f28)) (fun _ h9 => h9) rfl dX5_readByte_15 ?_
  refine se_cp (va_runVN (C := RX1) (As := []) (rest := []) ⟨hx, hb, hml, hown, hts⟩ (c_S_Incoming_room l D k h _ g) (se_kVN 0 hts q_code_X1_room (hZ _ nX5_m263 rfl) q_ini_StreamEnd_Incoming q_instanceMethod_X1_room q_sel_X1_room (by decide +kernel) ⟨Nat.le_of_ble_eq_true rfl, Nat.le_of_ble_eq_true rfl⟩ rfl rfl) ⟨se_blind se_ZN_ok, va_recv hK hP (ci := 1) (q0 := 3) rfl rfl, se_pre se_ZN_ok hP hK hD hZ⟩ rfl rfl hl.1 rfl (lv_room (Nat.le_of_ble_eq_true rfl)) dX5_readByte_18 ⟨Nat.zero_le _, Nat.zero_le _⟩) hD hS hA (fun H locs hP hD hS => ?_)
  refine lv_iload_n hx hb dX5_readByte_21 rfl (lv_at hl 0 rfl) ?_
  refine se_join (v := ((if (if 1024 < (g 1 9) then 1024 else (g 1 9)) ≤ (F_S_Incoming_room g) then 0 else 1) : Int32)) (pcJ := 30) (restJ := []) (ls := ls) (fun T => ?_) ?_
  · refine lv_icmp_ge (tgt := 29) hx hb dX5_readByte_22 (by decide) (fun c2 => ?_) (fun c2 => ?_)
    · refine lv_iconst (v := 0) hx hb dX5_readByte_29 (by decide) ?_
      exact T _ (by rw [if_pos c2])
    · refine lv_iconst (v := 1) hx hb dX5_readByte_25 (by decide) ?_
      refine lv_goto (tgt := 30) hx hb dX5_readByte_26 (by decide) ?_
      exact T _ (by rw [if_neg c2])
  refine lv_istore_n (lv' := [(2, .int ((if (if 1024 < (g 1 9) then 1024 else (g 1 9)) ≤ (F_S_Incoming_room g) then 0 else 1) : Int32)), (1, .int (if 1024 < (g 1 9) then 1024 else (g 1 9))), (0, .ref (h 0))]) hx hb dX5_readByte_30 rfl hl (by decide) rfl (fun ls hl => ?_)
  refine lv_aload_n hx hb dX5_readByte_31 rfl (lv_at hl 2 rfl) ?_
  refine va_get (D := D) (ci := 5) (v := .ref (h 3)) (C := RX5) (T := TX5) (N := 12) hx hb hts (se_iw iwX5) hown hK hP 0 rfl rfl 3 (by decide) (hts _ (List.mem_cons_of_mem _ qX5_f28)) (fun _ h9 => h9) rfl dX5_readByte_32 ?_
  refine se_ciE (va_runVN (C := RX1) (As := []) (rest := []) ⟨hx, hb, hml, hown, hts⟩ (c_S_Incoming_takeByte l D k h _ g) (se_kVN 0 hts q_code_X1_takeByte (hZ _ nX5_m305 rfl) q_ini_StreamEnd_Incoming q_instanceMethod_X1_takeByte q_sel_X1_takeByte (by decide +kernel) ⟨Nat.le_of_ble_eq_true rfl, Nat.le_of_ble_eq_true rfl⟩ rfl rfl) ⟨se_blind se_ZN_ok, va_recv hK hP (ci := 1) (q0 := 3) rfl rfl, se_pre se_ZN_ok hP hK hD hZ⟩ rfl rfl hl.1 rfl (lv_room (Nat.le_of_ble_eq_true rfl)) dX5_readByte_35 ⟨Nat.zero_le _, Nat.zero_le _⟩) hD hS hA (fun r1 g1 H locs eg1 hP hD hS => ?_)
  replace hF : (F_S_readByte_k1 g (F_S_Incoming_takeByte g).1 (F_S_Incoming_takeByte g).2) = F_S_readByte g := by rw [F_S_readByte]
  rw [← eg1] at hF
  replace hF : F_S_readByte_k1 g r1 g1 = F_S_readByte g := hF
  refine lv_istore_n (lv' := [(3, .int r1), (2, .int ((if (if 1024 < (g 1 9) then 1024 else (g 1 9)) ≤ (F_S_Incoming_room g) then 0 else 1) : Int32)), (1, .int (if 1024 < (g 1 9) then 1024 else (g 1 9))), (0, .ref (h 0))]) hx hb dX5_readByte_38 rfl hl (by decide) rfl (fun ls hl => ?_)
  refine lv_iload_n hx hb dX5_readByte_39 rfl (lv_at hl 1 rfl) ?_
  refine lv_if_eq (tgt := 69) hx hb dX5_readByte_40 (by decide) (fun c3 => ?_) (fun c3 => ?_)
  · refine lv_iload_n hx hb dX5_readByte_69 rfl (lv_at hl 0 rfl) ?_
    exact se_ri hx hb hr  hlocks hK hP hD hS dX5_readByte_70 (by rw [← hF, F_S_readByte_k1, if_pos c3])
  · refine lv_aload_n hx hb dX5_readByte_43 rfl (lv_at hl 3 rfl) ?_
    refine va_get (D := D) (ci := 5) (v := .ref (h 3)) (C := RX5) (T := TX5) (N := 12) hx hb hts (se_iw iwX5) hown hK hP 0 rfl rfl 3 (by decide) (hts _ (List.mem_cons_of_mem _ qX5_f28)) (fun _ h9 => h9) rfl dX5_readByte_44 ?_
    refine se_cp (va_runVN (C := RX1) (As := []) (rest := []) ⟨hx, hb, hml, hown, hts⟩ (c_S_Incoming_room l D k h _ g1) (se_kVN 0 hts q_code_X1_room (hZ _ nX5_m263 rfl) q_ini_StreamEnd_Incoming q_instanceMethod_X1_room q_sel_X1_room (by decide +kernel) ⟨Nat.le_of_ble_eq_true rfl, Nat.le_of_ble_eq_true rfl⟩ rfl rfl) ⟨se_blind se_ZN_ok, va_recv hK hP (ci := 1) (q0 := 3) rfl rfl, se_pre se_ZN_ok hP hK hD hZ⟩ rfl rfl hl.1 rfl (lv_room (Nat.le_of_ble_eq_true rfl)) dX5_readByte_47 ⟨Nat.zero_le _, Nat.zero_le _⟩) hD hS hA (fun H locs hP hD hS => ?_)
    refine lv_iload_n hx hb dX5_readByte_50 rfl (lv_at hl 2 rfl) ?_
    refine lv_icmp_lt (tgt := 69) hx hb dX5_readByte_51 (by decide) (fun c4 => ?_) (fun c4 => ?_)
    · refine lv_iload_n hx hb dX5_readByte_69 rfl (lv_at hl 0 rfl) ?_
      exact se_ri hx hb hr  hlocks hK hP hD hS dX5_readByte_70 (by rw [← hF, F_S_readByte_k1, if_neg c3, if_pos c4])
    · refine lv_aload_n hx hb dX5_readByte_54 rfl (lv_at hl 3 rfl) ?_
      refine se_cp (va_runV (C := RX5) (As := []) (rest := []) ⟨hx, hb, hml, hown, hts⟩ (c_S_mayTakeBytes l D k h _ g1) (se_kV 0 hts q_code_X5_mayTakeBytes qX5_m308 q_ini_StreamEnd q_instanceMethod_X5_mayTakeBytes q_sel_X5_mayTakeBytes (by decide +kernel) ⟨Nat.le_of_ble_eq_true rfl, Nat.le_of_ble_eq_true rfl⟩ rfl rfl) ⟨se_blind se_ZN_ok, va_recv hK hP (ci := 5) (q0 := 0) rfl rfl, se_pre se_ZN_ok hP hK hD hZ⟩ rfl rfl hl.1 rfl (lv_room (Nat.le_of_ble_eq_true rfl)) dX5_readByte_55 ⟨Nat.zero_le _, Nat.zero_le _⟩) hD hS hA (fun H locs hP hD hS => ?_)
      refine lv_if_eq (tgt := 69) hx hb dX5_readByte_58 (by decide) (fun c5 => ?_) (fun c5 => ?_)
      · refine lv_iload_n hx hb dX5_readByte_69 rfl (lv_at hl 0 rfl) ?_
        exact se_ri hx hb hr  hlocks hK hP hD hS dX5_readByte_70 (by rw [← hF, F_S_readByte_k1, if_neg c3, if_neg c4, if_pos c5])
      · refine lv_aload_n hx hb dX5_readByte_61 rfl (lv_at hl 3 rfl) ?_
        refine va_get (D := D) (ci := 5) (v := .ref (h 6)) (C := RX5) (T := TX5) (N := 12) hx hb hts (se_iw iwX5) hown hK hP 0 rfl rfl 5 (by decide) (hts _ (List.mem_cons_of_mem _ qX5_f42)) (fun _ h9 => h9) rfl dX5_readByte_62 ?_
        refine lv_iconst (v := 1) hx hb dX5_readByte_65 (by decide) ?_
        refine va_putN (D := D) (ci := 0) (v := .int 1) (ty := .boolean) (C := RX0) (T := TX0) (N := 9) hx hb hts (se_iw iwX0) tyX0 tyX0_ok nmX0 hown hK hP hD hS 6 rfl rfl 8 (by decide) (va_Nw.use rfl (hZ _ nX5_f206 rfl)) (fun _ h9 => h9) rfl (by decide +kernel) rfl rfl (Nat.le_of_ble_eq_true rfl) dX5_readByte_66 (fun H locs hP hD hS => ?_)
        replace hP : va_P D se_cl (se_WS k h (se_u g1 6 8 1)) H := hP
        replace hD : va_D A (se_WS k h (se_u g1 6 8 1)) := hD
        refine lv_iload_n hx hb dX5_readByte_69 rfl (lv_at hl 0 rfl) ?_
        exact se_ri hx hb hr  hlocks hK hP hD hS dX5_readByte_70 (by rw [← hF, F_S_readByte_k1, if_neg c3, if_neg c4, if_neg c5])
end
section
/-! written by program (wip/gen) -/
set_option maxRecDepth 100000 in
set_option maxHeartbeats 4000000 in
theorem c_S_beginQuiet (l : Launch) (D : va_G) (k : Nat → ClassId) (h : Nat → Nat) (sz : Nat) (g : se_G)  : Met l yX5_beginQuiet (se_w_X5_beginQuiet) ({ frames := 0, cells := 0, slots := 0, locals := 0 }) (va_Pc [.ref (h 0)] (se_Pre D se_cl [(k 2, .byte), (k 4, .int), (k 8, .byte), (k 10, .byte)] (se_WS k h g) se_ZN sz)) (se_Qv D se_cl [(k 2, .byte), (k 4, .int), (k 8, .byte), (k 10, .byte)] (se_WS k h) (F_S_beginQuiet g) (va_A (se_WS k h g) sz)) 0 0 (va_A (se_WS k h g) sz) := by
  refine se_met (Qc := se_Qv D se_cl [(k 2, .byte), (k 4, .int), (k 8, .byte), (k 10, .byte)] (se_WS k h) (F_S_beginQuiet g)) (cc := cX5_beginQuiet) (maxL := 1) (ret := none) (by decide) rfl (Nat.le_of_ble_eq_true rfl) ?_
  intro p e s m below meth c ls A hx hb hr hts hown hlocks hml hA hP hK hD hS hZ hl
  replace hl : lv_has ls 1 [(0, .ref (h 0))] := hl
  have hF : F_S_beginQuiet g = F_S_beginQuiet g := rfl
  refine lv_aload_n hx hb dX5_beginQuiet_0 rfl (lv_at hl 0 rfl) ?_
  refine lv_aload_n hx hb dX5_beginQuiet_1 rfl (lv_at hl 0 rfl) ?_
  refine va_get (D := D) (ci := 5) (v := .ref (h 5)) (C := RX5) (T := TX5) (N := 12) hx hb hts (se_iw iwX5) hown hK hP 0 rfl rfl 4 (by decide) (hts _ (List.mem_cons_of_mem _ qX5_f35)) (fun _ h9 => h9) rfl dX5_beginQuiet_2 ?_
  refine va_getN (D := D) (ci := 4) (v := .int (g 5 0)) (C := RX4) (T := TX4) (N := 11) hx hb hts (se_iw iwX4) hown hK hP 5 rfl rfl 0 (by decide) (va_Nw.use rfl (hZ _ nX5_f150 rfl)) (fun _ h9 => h9) rfl dX5_beginQuiet_5 ?_
  refine lv_aload_n hx hb dX5_beginQuiet_8 rfl (lv_at hl 0 rfl) ?_
  refine va_get (D := D) (ci := 5) (v := .int (g 0 1)) (C := RX5) (T := TX5) (N := 12) hx hb hts (se_iw iwX5) hown hK hP 0 rfl rfl 1 (by decide) (hts _ (List.mem_cons_of_mem _ qX5_f13)) (fun _ h9 => h9) rfl dX5_beginQuiet_9 ?_
  refine lv_iadd hx hb dX5_beginQuiet_12 ?_
  refine va_put (D := D) (ci := 5) (v := .int ((g 5 0) + (g 0 1))) (ty := .int) (C := RX5) (T := TX5) (N := 12) hx hb hts (se_iw iwX5) tyX5 tyX5_ok nmX5 hown hK hP hD hS 0 rfl rfl 11 (by decide) (hts _ (List.mem_cons_of_mem _ qX5_f66)) (fun _ h9 => h9) rfl (by decide +kernel) rfl rfl (Nat.le_of_ble_eq_true rfl) dX5_beginQuiet_13 (fun H locs hP hD hS => ?_)
  replace hP : va_P D se_cl (se_WS k h (se_u g 0 11 ((g 5 0) + (g 0 1)))) H := hP
  replace hD : va_D A (se_WS k h (se_u g 0 11 ((g 5 0) + (g 0 1)))) := hD
  exact se_rv hx hb hr hlocks hK hP hD hS dX5_beginQuiet_16 (by rw [F_S_beginQuiet])
set_option maxRecDepth 100000 in
set_option maxHeartbeats 4000000 in
theorem c_S_halt (l : Launch) (D : va_G) (k : Nat → ClassId) (h : Nat → Nat) (sz : Nat) (g : se_G) (p1 : Int32) : Met l yX5_halt (se_w_X5_halt) ({ frames := 1, cells := 0, slots := 0, locals := 20 }) (va_Pc [.ref (h 0), .int p1] (se_Pre D se_cl [(k 2, .byte), (k 4, .int), (k 8, .byte), (k 10, .byte)] (se_WS k h g) se_ZN sz)) (se_Qv D se_cl [(k 2, .byte), (k 4, .int), (k 8, .byte), (k 10, .byte)] (se_WS k h) (F_S_halt g p1) (va_A (se_WS k h g) sz)) 0 0 (va_A (se_WS k h g) sz) := by
  refine se_met (Qc := se_Qv D se_cl [(k 2, .byte), (k 4, .int), (k 8, .byte), (k 10, .byte)] (se_WS k h) (F_S_halt g p1)) (cc := cX5_halt) (maxL := 2) (ret := none) (by decide) rfl (Nat.le_of_ble_eq_true rfl) ?_
  intro p e s m below meth c ls A hx hb hr hts hown hlocks hml hA hP hK hD hS hZ hl
  replace hl : lv_has ls 2 [(0, .ref (h 0)), (1, .int p1)] := hl
  have hF : F_S_halt g p1 = F_S_halt g p1 := rfl
  refine lv_aload_n hx hb dX5_halt_0 rfl (lv_at hl 0 rfl) ?_
  refine lv_iload_n hx hb dX5_halt_1 rfl (lv_at hl 1 rfl) ?_
  refine va_put (D := D) (ci := 5) (v := .int p1) (ty := .int) (C := RX5) (T := TX5) (N := 12) hx hb hts (se_iw iwX5) tyX5 tyX5_ok nmX5 hown hK hP hD hS 0 rfl rfl 9 (by decide) (hts _ (List.mem_cons_of_mem _ qX5_f60)) (fun _ h9 => h9) rfl (by decide +kernel) rfl rfl (Nat.le_of_ble_eq_true rfl) dX5_halt_2 (fun H locs hP hD hS => ?_)
  replace hP : va_P D se_cl (se_WS k h (se_u g 0 9 p1)) H := hP
  replace hD : va_D A (se_WS k h (se_u g 0 9 p1)) := hD
  refine lv_aload_n hx hb dX5_halt_5 rfl (lv_at hl 0 rfl) ?_
  refine va_get (D := D) (ci := 5) (v := .ref (h 5)) (C := RX5) (T := TX5) (N := 12) hx hb hts (se_iw iwX5) hown hK hP 0 rfl rfl 4 (by decide) (hts _ (List.mem_cons_of_mem _ qX5_f35)) (fun _ h9 => h9) rfl dX5_halt_6 ?_
  refine lv_iconst (v := 0) hx hb dX5_halt_9 (by decide) ?_
  refine va_putN (D := D) (ci := 4) (v := .int 0) (ty := .boolean) (C := RX4) (T := TX4) (N := 11) hx hb hts (se_iw iwX4) tyX4 tyX4_ok nmX4 hown hK hP hD hS 5 rfl rfl 1 (by decide) (va_Nw.use rfl (hZ _ nX5_f155 rfl)) (fun _ h9 => h9) rfl (by decide +kernel) rfl rfl (Nat.le_of_ble_eq_true rfl) dX5_halt_10 (fun H locs hP hD hS => ?_)
  replace hP : va_P D se_cl (se_WS k h (se_u (se_u g 0 9 p1) 5 1 0)) H := hP
  replace hD : va_D A (se_WS k h (se_u (se_u g 0 9 p1) 5 1 0)) := hD
  refine lv_aload_n hx hb dX5_halt_13 rfl (lv_at hl 0 rfl) ?_
  refine va_get (D := D) (ci := 5) (v := .ref (h 6)) (C := RX5) (T := TX5) (N := 12) hx hb hts (se_iw iwX5) hown hK hP 0 rfl rfl 5 (by decide) (hts _ (List.mem_cons_of_mem _ qX5_f42)) (fun _ h9 => h9) rfl dX5_halt_14 ?_
  refine se_cvE (va_runVN (C := RX0) (As := []) (rest := []) ⟨hx, hb, hml, hown, hts⟩ (c_S_Due_dropStream l D k h _ (se_u (se_u g 0 9 p1) 5 1 0)) (se_kVN 0 hts q_code_X0_dropStream (hZ _ nX5_m299 rfl) q_ini_StreamEnd_Due q_instanceMethod_X0_dropStream q_sel_X0_dropStream (by decide +kernel) ⟨Nat.le_of_ble_eq_true rfl, Nat.le_of_ble_eq_true rfl⟩ rfl rfl) ⟨se_blind se_ZN_ok, va_recv hK hP (ci := 0) (q0 := 6) rfl rfl, se_pre se_ZN_ok hP hK hD hZ⟩ rfl rfl hl.1 rfl (lv_room (Nat.le_of_ble_eq_true rfl)) dX5_halt_17 ⟨Nat.zero_le _, Nat.zero_le _⟩) hD hS hA (fun g1 H locs eg1 hP hD hS => ?_)
  replace hF : (F_S_halt_k1 p1 (F_S_Due_dropStream (se_u (se_u g 0 9 p1) 5 1 0))) = F_S_halt g p1 := by rw [F_S_halt]
  rw [← eg1] at hF
  replace hF : F_S_halt_k1 p1 g1 = F_S_halt g p1 := hF
  refine lv_iload_n hx hb dX5_halt_20 rfl (lv_at hl 1 rfl) ?_
  refine lv_bipush (v := 10) hx hb dX5_halt_21 (by decide) ?_
  refine lv_icmp_ne (tgt := 33) hx hb dX5_halt_23 (by decide) (fun c1 => ?_) (fun c1 => ?_)
  · refine lv_aload_n hx hb dX5_halt_33 rfl (lv_at hl 0 rfl) ?_
    refine va_get (D := D) (ci := 5) (v := .ref (h 6)) (C := RX5) (T := TX5) (N := 12) hx hb hts (se_iw iwX5) hown hK hP 0 rfl rfl 5 (by decide) (hts _ (List.mem_cons_of_mem _ qX5_f42)) (fun _ h9 => h9) rfl dX5_halt_34 ?_
    refine lv_iconst (v := 0) hx hb dX5_halt_37 (by decide) ?_
    refine va_putN (D := D) (ci := 0) (v := .int 0) (ty := .boolean) (C := RX0) (T := TX0) (N := 9) hx hb hts (se_iw iwX0) tyX0 tyX0_ok nmX0 hown hK hP hD hS 6 rfl rfl 8 (by decide) (va_Nw.use rfl (hZ _ nX5_f206 rfl)) (fun _ h9 => h9) rfl (by decide +kernel) rfl rfl (Nat.le_of_ble_eq_true rfl) dX5_halt_38 (fun H locs hP hD hS => ?_)
    replace hP : va_P D se_cl (se_WS k h (se_u g1 6 8 0)) H := hP
    replace hD : va_D A (se_WS k h (se_u g1 6 8 0)) := hD
    exact se_rv hx hb hr hlocks hK hP hD hS dX5_halt_41 (by rw [← hF, F_S_halt_k1, if_neg c1])
  · refine lv_aload_n hx hb dX5_halt_26 rfl (lv_at hl 0 rfl) ?_
    refine se_cvE (va_runV (C := RX5) (As := []) (rest := []) ⟨hx, hb, hml, hown, hts⟩ (c_S_beginQuiet l D k h _ g1) (se_kV 0 hts q_code_X5_beginQuiet qX5_m302 q_ini_StreamEnd q_instanceMethod_X5_beginQuiet q_sel_X5_beginQuiet (by decide +kernel) ⟨Nat.le_of_ble_eq_true rfl, Nat.le_of_ble_eq_true rfl⟩ rfl rfl) ⟨se_blind se_ZN_ok, va_recv hK hP (ci := 5) (q0 := 0) rfl rfl, se_pre se_ZN_ok hP hK hD hZ⟩ rfl rfl hl.1 rfl (lv_room (Nat.le_of_ble_eq_true rfl)) dX5_halt_27 ⟨Nat.zero_le _, Nat.zero_le _⟩) hD hS hA (fun g2 H locs eg2 hP hD hS => ?_)
    refine lv_goto (tgt := 41) hx hb dX5_halt_30 (by decide) ?_
    exact se_rv hx hb hr hlocks hK hP hD hS dX5_halt_41 (by subst eg2; rw [← hF, F_S_halt_k1, if_pos c1])
set_option maxRecDepth 100000 in
set_option maxHeartbeats 4000000 in
theorem c_S_Due_resetIs (l : Launch) (D : va_G) (k : Nat → ClassId) (h : Nat → Nat) (sz : Nat) (g : se_G) (p1 : Int32) (p2 : Int32) (p3 : Int32) : Met l yX0_resetIs (se_w_X0_resetIs) ({ frames := 0, cells := 0, slots := 0, locals := 0 }) (va_Pc [.ref (h 6), .int p1, .int p2, .int p3] (se_Pre D se_cl [(k 2, .byte), (k 4, .int), (k 8, .byte), (k 10, .byte)] (se_WS k h g) se_ZN sz)) (se_Qv D se_cl [(k 2, .byte), (k 4, .int), (k 8, .byte), (k 10, .byte)] (se_WS k h) (F_S_Due_resetIs g p1 p2 p3) (va_A (se_WS k h g) sz)) 0 0 (va_A (se_WS k h g) sz) := by
  refine se_met (Qc := se_Qv D se_cl [(k 2, .byte), (k 4, .int), (k 8, .byte), (k 10, .byte)] (se_WS k h) (F_S_Due_resetIs g p1 p2 p3)) (cc := cX0_resetIs) (maxL := 4) (ret := none) (by decide) rfl (Nat.le_of_ble_eq_true rfl) ?_
  intro p e s m below meth c ls A hx hb hr hts hown hlocks hml hA hP hK hD hS hZ hl
  replace hl : lv_has ls 4 [(0, .ref (h 6)), (1, .int p1), (2, .int p2), (3, .int p3)] := hl
  have hF : F_S_Due_resetIs g p1 p2 p3 = F_S_Due_resetIs g p1 p2 p3 := rfl
  refine lv_aload_n hx hb dX0_resetIs_0 rfl (lv_at hl 0 rfl) ?_
  refine lv_iconst (v := 1) hx hb dX0_resetIs_1 (by decide) ?_
  refine va_put (D := D) (ci := 0) (v := .int 1) (ty := .boolean) (C := RX0) (T := TX0) (N := 9) hx hb hts (se_iw iwX0) tyX0 tyX0_ok nmX0 hown hK hP hD hS 6 rfl rfl 0 (by decide) (hts _ (List.mem_cons_of_mem _ qX0_f28)) (fun _ h9 => h9) rfl (by decide +kernel) rfl rfl (Nat.le_of_ble_eq_true rfl) dX0_resetIs_2 (fun H locs hP hD hS => ?_)
  replace hP : va_P D se_cl (se_WS k h (se_u g 6 0 1)) H := hP
  replace hD : va_D A (se_WS k h (se_u g 6 0 1)) := hD
  refine lv_aload_n hx hb dX0_resetIs_5 rfl (lv_at hl 0 rfl) ?_
  refine lv_iload_n hx hb dX0_resetIs_6 rfl (lv_at hl 1 rfl) ?_
  refine va_put (D := D) (ci := 0) (v := .int p1) (ty := .int) (C := RX0) (T := TX0) (N := 9) hx hb hts (se_iw iwX0) tyX0 tyX0_ok nmX0 hown hK hP hD hS 6 rfl rfl 1 (by decide) (hts _ (List.mem_cons_of_mem _ qX0_f31)) (fun _ h9 => h9) rfl (by decide +kernel) rfl rfl (Nat.le_of_ble_eq_true rfl) dX0_resetIs_7 (fun H locs hP hD hS => ?_)
  replace hP : va_P D se_cl (se_WS k h (se_u (se_u g 6 0 1) 6 1 p1)) H := hP
  replace hD : va_D A (se_WS k h (se_u (se_u g 6 0 1) 6 1 p1)) := hD
  refine lv_aload_n hx hb dX0_resetIs_10 rfl (lv_at hl 0 rfl) ?_
  refine lv_iload_n hx hb dX0_resetIs_11 rfl (lv_at hl 2 rfl) ?_
  refine va_put (D := D) (ci := 0) (v := .int p2) (ty := .int) (C := RX0) (T := TX0) (N := 9) hx hb hts (se_iw iwX0) tyX0 tyX0_ok nmX0 hown hK hP hD hS 6 rfl rfl 2 (by decide) (hts _ (List.mem_cons_of_mem _ qX0_f35)) (fun _ h9 => h9) rfl (by decide +kernel) rfl rfl (Nat.le_of_ble_eq_true rfl) dX0_resetIs_12 (fun H locs hP hD hS => ?_)
  replace hP : va_P D se_cl (se_WS k h (se_u (se_u (se_u g 6 0 1) 6 1 p1) 6 2 p2)) H := hP
  replace hD : va_D A (se_WS k h (se_u (se_u (se_u g 6 0 1) 6 1 p1) 6 2 p2)) := hD
  refine lv_aload_n hx hb dX0_resetIs_15 rfl (lv_at hl 0 rfl) ?_
  refine lv_iload_n hx hb dX0_resetIs_16 rfl (lv_at hl 3 rfl) ?_
  refine va_put (D := D) (ci := 0) (v := .int p3) (ty := .int) (C := RX0) (T := TX0) (N := 9) hx hb hts (se_iw iwX0) tyX0 tyX0_ok nmX0 hown hK hP hD hS 6 rfl rfl 3 (by decide) (hts _ (List.mem_cons_of_mem _ qX0_f38)) (fun _ h9 => h9) rfl (by decide +kernel) rfl rfl (Nat.le_of_ble_eq_true rfl) dX0_resetIs_17 (fun H locs hP hD hS => ?_)
  replace hP : va_P D se_cl (se_WS k h (se_u (se_u (se_u (se_u g 6 0 1) 6 1 p1) 6 2 p2) 6 3 p3)) H := hP
  replace hD : va_D A (se_WS k h (se_u (se_u (se_u (se_u g 6 0 1) 6 1 p1) 6 2 p2) 6 3 p3)) := hD
  exact se_rv hx hb hr hlocks hK hP hD hS dX0_resetIs_20 (by rw [F_S_Due_resetIs])
set_option maxRecDepth 100000 in
set_option maxHeartbeats 4000000 in
theorem c_S_Watch_ticksToAlarm (l : Launch) (D : va_G) (k : Nat → ClassId) (h : Nat → Nat) (sz : Nat) (g : se_G)  : Met l yX4_ticksToAlarm (se_w_X4_ticksToAlarm) ({ frames := 0, cells := 0, slots := 0, locals := 0 }) (va_Pc [.ref (h 5)] (se_Pre D se_cl [(k 2, .byte), (k 4, .int), (k 8, .byte), (k 10, .byte)] (se_WS k h g) se_ZN sz)) (se_Qp D se_cl [(k 2, .byte), (k 4, .int), (k 8, .byte), (k 10, .byte)] (se_WS k h) (F_S_Watch_ticksToAlarm g) g (va_A (se_WS k h g) sz)) 0 0 (va_A (se_WS k h g) sz) := by
  refine se_met (Qc := se_Qp D se_cl [(k 2, .byte), (k 4, .int), (k 8, .byte), (k 10, .byte)] (se_WS k h) (F_S_Watch_ticksToAlarm g) g) (cc := cX4_ticksToAlarm) (maxL := 1) (ret := (some .int)) (by decide) rfl (Nat.le_of_ble_eq_true rfl) ?_
  intro p e s m below meth c ls A hx hb hr hts hown hlocks hml hA hP hK hD hS hZ hl
  replace hl : lv_has ls 1 [(0, .ref (h 5))] := hl
  have hF : F_S_Watch_ticksToAlarm g = F_S_Watch_ticksToAlarm g := rfl
  refine lv_aload_n hx hb dX4_ticksToAlarm_0 rfl (lv_at hl 0 rfl) ?_
  refine va_get (D := D) (ci := 4) (v := .int (g 5 1)) (C := RX4) (T := TX4) (N := 11) hx hb hts (se_iw iwX4) hown hK hP 5 rfl rfl 1 (by decide) (hts _ (List.mem_cons_of_mem _ qX4_f13)) (fun _ h9 => h9) rfl dX4_ticksToAlarm_1 ?_
  refine lv_if_eq (tgt := 19) hx hb dX4_ticksToAlarm_4 (by decide) (fun c1 => ?_) (fun c1 => ?_)
  · refine lv_iconst (v := 0) hx hb dX4_ticksToAlarm_19 (by decide) ?_
    exact se_rp hx hb hr  hlocks hK hP hD hS dX4_ticksToAlarm_20 (by rw [F_S_Watch_ticksToAlarm, if_pos c1])
  · refine lv_aload_n hx hb dX4_ticksToAlarm_7 rfl (lv_at hl 0 rfl) ?_
    refine va_get (D := D) (ci := 4) (v := .int (g 5 2)) (C := RX4) (T := TX4) (N := 11) hx hb hts (se_iw iwX4) hown hK hP 5 rfl rfl 2 (by decide) (hts _ (List.mem_cons_of_mem _ qX4_f17)) (fun _ h9 => h9) rfl dX4_ticksToAlarm_8 ?_
    refine lv_aload_n hx hb dX4_ticksToAlarm_11 rfl (lv_at hl 0 rfl) ?_
    refine va_get (D := D) (ci := 4) (v := .int (g 5 0)) (C := RX4) (T := TX4) (N := 11) hx hb hts (se_iw iwX4) hown hK hP 5 rfl rfl 0 (by decide) (hts _ (List.mem_cons_of_mem _ qX4_f41)) (fun _ h9 => h9) rfl dX4_ticksToAlarm_12 ?_
    refine lv_isub hx hb dX4_ticksToAlarm_15 ?_
    refine lv_goto (tgt := 20) hx hb dX4_ticksToAlarm_16 (by decide) ?_
    exact se_rp hx hb hr  hlocks hK hP hD hS dX4_ticksToAlarm_20 (by rw [F_S_Watch_ticksToAlarm, if_neg c1])
set_option maxRecDepth 100000 in
set_option maxHeartbeats 4000000 in
theorem c_S_Watch_doubleWait (l : Launch) (D : va_G) (k : Nat → ClassId) (h : Nat → Nat) (sz : Nat) (g : se_G)  : Met l yX4_doubleWait (se_w_X4_doubleWait) ({ frames := 1, cells := 0, slots := 0, locals := 21 }) (va_Pc [.ref (h 5)] (se_Pre D se_cl [(k 2, .byte), (k 4, .int), (k 8, .byte), (k 10, .byte)] (se_WS k h g) se_ZN sz)) (se_Qv D se_cl [(k 2, .byte), (k 4, .int), (k 8, .byte), (k 10, .byte)] (se_WS k h) (F_S_Watch_doubleWait g) (va_A (se_WS k h g) sz)) 0 0 (va_A (se_WS k h g) sz) := by
  refine se_met (Qc := se_Qv D se_cl [(k 2, .byte), (k 4, .int), (k 8, .byte), (k 10, .byte)] (se_WS k h) (F_S_Watch_doubleWait g)) (cc := cX4_doubleWait) (maxL := 1) (ret := none) (by decide) rfl (Nat.le_of_ble_eq_true rfl) ?_
  intro p e s m below meth c ls A hx hb hr hts hown hlocks hml hA hP hK hD hS hZ hl
  replace hl : lv_has ls 1 [(0, .ref (h 5))] := hl
  have hF : F_S_Watch_doubleWait g = F_S_Watch_doubleWait g := rfl
  refine lv_aload_n hx hb dX4_doubleWait_0 rfl (lv_at hl 0 rfl) ?_
  refine lv_iconst (v := 2) hx hb dX4_doubleWait_1 (by decide) ?_
  refine lv_aload_n hx hb dX4_doubleWait_2 rfl (lv_at hl 0 rfl) ?_
  refine va_get (D := D) (ci := 4) (v := .int (g 5 4)) (C := RX4) (T := TX4) (N := 11) hx hb hts (se_iw iwX4) hown hK hP 5 rfl rfl 4 (by decide) (hts _ (List.mem_cons_of_mem _ qX4_f9)) (fun _ h9 => h9) rfl dX4_doubleWait_3 ?_
  refine lv_imul hx hb dX4_doubleWait_6 ?_
  refine lv_sipush (v := 1200) hx hb dX4_doubleWait_7 (by decide) ?_
  refine va_mmin hx hb (hml.trans hl.1.symm) hown (hts _ (List.mem_cons_of_mem _ qX4_m47)) (hts _ (List.mem_cons_of_mem _ q_static_Math_min)) (hts _ (List.mem_cons_of_mem _ q_ini_java_lang_Math)) (hts _ (List.mem_cons_of_mem _ q_code_Math_min)) (Nat.le_of_ble_eq_true rfl) (Nat.le_of_ble_eq_true rfl) (Nat.zero_le _) (Nat.zero_le _) dX4_doubleWait_10 ?_
  refine va_put (D := D) (ci := 4) (v := .int (if 1200 < (2 * (g 5 4)) then 1200 else (2 * (g 5 4)))) (ty := .int) (C := RX4) (T := TX4) (N := 11) hx hb hts (se_iw iwX4) tyX4 tyX4_ok nmX4 hown hK hP hD hS 5 rfl rfl 4 (by decide) (hts _ (List.mem_cons_of_mem _ qX4_f9)) (fun _ h9 => h9) rfl (by decide +kernel) rfl rfl (Nat.le_of_ble_eq_true rfl) dX4_doubleWait_13 (fun H locs hP hD hS => ?_)
  replace hP : va_P D se_cl (se_WS k h (se_u g 5 4 (if 1200 < (2 * (g 5 4)) then 1200 else (2 * (g 5 4))))) H := hP
  replace hD : va_D A (se_WS k h (se_u g 5 4 (if 1200 < (2 * (g 5 4)) then 1200 else (2 * (g 5 4))))) := hD
  exact se_rv hx hb hr hlocks hK hP hD hS dX4_doubleWait_16 (by rw [F_S_Watch_doubleWait])
set_option maxRecDepth 100000 in
set_option maxHeartbeats 4000000 in
theorem c_S_takeAlarm (l : Launch) (D : va_G) (k : Nat → ClassId) (h : Nat → Nat) (sz : Nat) (g : se_G)  : Met l yX5_takeAlarm (se_w_X5_takeAlarm) ({ frames := 2, cells := 0, slots := 0, locals := 41 }) (va_Pc [.ref (h 0)] (se_Pre D se_cl [(k 2, .byte), (k 4, .int), (k 8, .byte), (k 10, .byte)] (se_WS k h g) se_ZN sz)) (se_Qv D se_cl [(k 2, .byte), (k 4, .int), (k 8, .byte), (k 10, .byte)] (se_WS k h) (F_S_takeAlarm g) (va_A (se_WS k h g) sz)) 0 0 (va_A (se_WS k h g) sz) := by
  refine se_met (Qc := se_Qv D se_cl [(k 2, .byte), (k 4, .int), (k 8, .byte), (k 10, .byte)] (se_WS k h) (F_S_takeAlarm g)) (cc := cX5_takeAlarm) (maxL := 1) (ret := none) (by decide) rfl (Nat.le_of_ble_eq_true rfl) ?_
  intro p e s m below meth c ls A hx hb hr hts hown hlocks hml hA hP hK hD hS hZ hl
  replace hl : lv_has ls 1 [(0, .ref (h 0))] := hl
  have J48 : ∀ (gj48 : se_G) (H : Heap) (locs : List Loc) (ls : Array Slot), F_S_takeAlarm_j48 gj48 = F_S_takeAlarm g → va_P D se_cl (se_WS k h gj48) H → va_D A (se_WS k h gj48) → va_S A s.heap H locs → lv_has ls 1 [(0, .ref (h 0))] → W p l e ({ frames := 2, cells := 0, slots := 0, locals := 41 }) s m [.ref (h 0)].toArray below meth c H locs 0 0 (MQ below (se_Qv D se_cl [(k 2, .byte), (k 4, .int), (k 8, .byte), (k 10, .byte)] (se_WS k h) (F_S_takeAlarm g) A) [.ref (h 0)].toArray s 0 0 A) (F0 m 48 ls []) := by
    intro gj48 H locs ls hF hP hD hS hl
    refine lv_aload_n hx hb dX5_takeAlarm_48 rfl (lv_at hl 0 rfl) ?_
    refine va_get (D := D) (ci := 5) (v := .ref (h 6)) (C := RX5) (T := TX5) (N := 12) hx hb hts (se_iw iwX5) hown hK hP 0 rfl rfl 5 (by decide) (hts _ (List.mem_cons_of_mem _ qX5_f42)) (fun _ h9 => h9) rfl dX5_takeAlarm_49 ?_
    refine lv_iconst (v := 1) hx hb dX5_takeAlarm_52 (by decide) ?_
    refine va_putN (D := D) (ci := 0) (v := .int 1) (ty := .boolean) (C := RX0) (T := TX0) (N := 9) hx hb hts (se_iw iwX0) tyX0 tyX0_ok nmX0 hown hK hP hD hS 6 rfl rfl 4 (by decide) (va_Nw.use rfl (hZ _ nX5_f173 rfl)) (fun _ h9 => h9) rfl (by decide +kernel) rfl rfl (Nat.le_of_ble_eq_true rfl) dX5_takeAlarm_53 (fun H locs hP hD hS => ?_)
    replace hP : va_P D se_cl (se_WS k h (se_u gj48 6 4 1)) H := hP
    replace hD : va_D A (se_WS k h (se_u gj48 6 4 1)) := hD
    refine lv_goto (tgt := 88) hx hb dX5_takeAlarm_56 (by decide) ?_
    refine lv_aload_n hx hb dX5_takeAlarm_88 rfl (lv_at hl 0 rfl) ?_
    refine va_get (D := D) (ci := 5) (v := .ref (h 5)) (C := RX5) (T := TX5) (N := 12) hx hb hts (se_iw iwX5) hown hK hP 0 rfl rfl 4 (by decide) (hts _ (List.mem_cons_of_mem _ qX5_f35)) (fun _ h9 => h9) rfl dX5_takeAlarm_89 ?_
    refine se_cvE (va_runVN (C := RX4) (As := []) (rest := []) ⟨hx, hb, hml, hown, hts⟩ (c_S_Watch_doubleWait l D k h _ (se_u gj48 6 4 1)) (se_kVN 0 hts q_code_X4_doubleWait (hZ _ nX5_m320 rfl) q_ini_StreamEnd_Watch q_instanceMethod_X4_doubleWait q_sel_X4_doubleWait (by decide +kernel) ⟨Nat.le_of_ble_eq_true rfl, Nat.le_of_ble_eq_true rfl⟩ rfl rfl) ⟨se_blind se_ZN_ok, va_recv hK hP (ci := 4) (q0 := 5) rfl rfl, se_pre se_ZN_ok hP hK hD hZ⟩ rfl rfl hl.1 rfl (lv_room (Nat.le_of_ble_eq_true rfl)) dX5_takeAlarm_92 ⟨Nat.zero_le _, Nat.zero_le _⟩) hD hS hA (fun g1 H locs eg1 hP hD hS => ?_)
    refine lv_aload_n hx hb dX5_takeAlarm_95 rfl (lv_at hl 0 rfl) ?_
    refine va_get (D := D) (ci := 5) (v := .ref (h 5)) (C := RX5) (T := TX5) (N := 12) hx hb hts (se_iw iwX5) hown hK hP 0 rfl rfl 4 (by decide) (hts _ (List.mem_cons_of_mem _ qX5_f35)) (fun _ h9 => h9) rfl dX5_takeAlarm_96 ?_
    refine se_cvE (va_runVN (C := RX4) (As := []) (rest := []) ⟨hx, hb, hml, hown, hts⟩ (c_S_Watch_setAlarm l D k h _ g1) (se_kVN 0 hts q_code_X4_setAlarm (hZ _ nX5_m323 rfl) q_ini_StreamEnd_Watch q_instanceMethod_X4_setAlarm q_sel_X4_setAlarm (by decide +kernel) ⟨Nat.le_of_ble_eq_true rfl, Nat.le_of_ble_eq_true rfl⟩ rfl rfl) ⟨se_blind se_ZN_ok, va_recv hK hP (ci := 4) (q0 := 5) rfl rfl, se_pre se_ZN_ok hP hK hD hZ⟩ rfl rfl hl.1 rfl (lv_room (Nat.le_of_ble_eq_true rfl)) dX5_takeAlarm_99 ⟨Nat.zero_le _, Nat.zero_le _⟩) hD hS hA (fun g2 H locs eg2 hP hD hS => ?_)
    exact se_rv hx hb hr hlocks hK hP hD hS dX5_takeAlarm_102 (by subst eg1; subst eg2; rw [← hF, F_S_takeAlarm_j48])
  have hF : F_S_takeAlarm g = F_S_takeAlarm g := rfl
  refine lv_aload_n hx hb dX5_takeAlarm_0 rfl (lv_at hl 0 rfl) ?_
  refine va_get (D := D) (ci := 5) (v := .ref (h 5)) (C := RX5) (T := TX5) (N := 12) hx hb hts (se_iw iwX5) hown hK hP 0 rfl rfl 4 (by decide) (hts _ (List.mem_cons_of_mem _ qX5_f35)) (fun _ h9 => h9) rfl dX5_takeAlarm_1 ?_
  refine lv_dup hx hb dX5_takeAlarm_4 rfl ?_
  refine va_getN (D := D) (ci := 4) (v := .int (g 5 3)) (C := RX4) (T := TX4) (N := 11) hx hb hts (se_iw iwX4) hown hK hP 5 rfl rfl 3 (by decide) (va_Nw.use rfl (hZ _ nX5_f270 rfl)) (fun _ h9 => h9) rfl dX5_takeAlarm_5 ?_
  refine lv_iconst (v := 1) hx hb dX5_takeAlarm_8 (by decide) ?_
  refine lv_iadd hx hb dX5_takeAlarm_9 ?_
  refine va_putN (D := D) (ci := 4) (v := .int ((g 5 3) + 1)) (ty := .int) (C := RX4) (T := TX4) (N := 11) hx hb hts (se_iw iwX4) tyX4 tyX4_ok nmX4 hown hK hP hD hS 5 rfl rfl 3 (by decide) (va_Nw.use rfl (hZ _ nX5_f270 rfl)) (fun _ h9 => h9) rfl (by decide +kernel) rfl rfl (Nat.le_of_ble_eq_true rfl) dX5_takeAlarm_10 (fun H locs hP hD hS => ?_)
  replace hP : va_P D se_cl (se_WS k h (se_u g 5 3 ((g 5 3) + 1))) H := hP
  replace hD : va_D A (se_WS k h (se_u g 5 3 ((g 5 3) + 1))) := hD
  refine lv_aload_n hx hb dX5_takeAlarm_13 rfl (lv_at hl 0 rfl) ?_
  refine va_get (D := D) (ci := 5) (v := .ref (h 5)) (C := RX5) (T := TX5) (N := 12) hx hb hts (se_iw iwX5) hown hK hP 0 rfl rfl 4 (by decide) (hts _ (List.mem_cons_of_mem _ qX5_f35)) (fun _ h9 => h9) rfl dX5_takeAlarm_14 ?_
  refine va_getN (D := D) (ci := 4) (v := .int ((g 5 3) + 1)) (C := RX4) (T := TX4) (N := 11) hx hb hts (se_iw iwX4) hown hK hP 5 rfl rfl 3 (by decide) (va_Nw.use rfl (hZ _ nX5_f270 rfl)) (fun _ h9 => h9) rfl dX5_takeAlarm_17 ?_
  refine lv_bipush (v := 8) hx hb dX5_takeAlarm_20 (by decide) ?_
  refine lv_icmp_le (tgt := 32) hx hb dX5_takeAlarm_22 (by decide) (fun c1 => ?_) (fun c1 => ?_)
  · refine lv_aload_n hx hb dX5_takeAlarm_32 rfl (lv_at hl 0 rfl) ?_
    refine va_get (D := D) (ci := 5) (v := .int (g 0 9)) (C := RX5) (T := TX5) (N := 12) hx hb hts (se_iw iwX5) hown hK hP 0 rfl rfl 9 (by decide) (hts _ (List.mem_cons_of_mem _ qX5_f60)) (fun _ h9 => h9) rfl dX5_takeAlarm_33 ?_
    refine lv_iconst (v := 2) hx hb dX5_takeAlarm_36 (by decide) ?_
    refine lv_icmp_eq (tgt := 48) hx hb dX5_takeAlarm_37 (by decide) (fun c2 => ?_) (fun c2 => ?_)
    · exact J48 (se_u g 5 3 ((g 5 3) + 1)) _ _ ls (by rw [F_S_takeAlarm, if_pos c1, if_pos c2]) hP hD hS (lv_sub hl [0] rfl)
    · refine lv_aload_n hx hb dX5_takeAlarm_40 rfl (lv_at hl 0 rfl) ?_
      refine va_get (D := D) (ci := 5) (v := .int (g 0 9)) (C := RX5) (T := TX5) (N := 12) hx hb hts (se_iw iwX5) hown hK hP 0 rfl rfl 9 (by decide) (hts _ (List.mem_cons_of_mem _ qX5_f60)) (fun _ h9 => h9) rfl dX5_takeAlarm_41 ?_
      refine lv_iconst (v := 3) hx hb dX5_takeAlarm_44 (by decide) ?_
      refine lv_icmp_ne (tgt := 59) hx hb dX5_takeAlarm_45 (by decide) (fun c3 => ?_) (fun c3 => ?_)
      · refine lv_aload_n hx hb dX5_takeAlarm_59 rfl (lv_at hl 0 rfl) ?_
        refine va_get (D := D) (ci := 5) (v := .ref (h 1)) (C := RX5) (T := TX5) (N := 12) hx hb hts (se_iw iwX5) hown hK hP 0 rfl rfl 2 (by decide) (hts _ (List.mem_cons_of_mem _ qX5_f21)) (fun _ h9 => h9) rfl dX5_takeAlarm_60 ?_
        refine se_cp (va_runVN (C := RX2) (As := []) (rest := []) ⟨hx, hb, hml, hown, hts⟩ (c_S_Outgoing_hasUnthanked l D k h _ (se_u g 5 3 ((g 5 3) + 1))) (se_kVN 0 hts q_code_X2_hasUnthanked (hZ _ nX5_m317 rfl) q_ini_StreamEnd_Outgoing q_instanceMethod_X2_hasUnthanked q_sel_X2_hasUnthanked (by decide +kernel) ⟨Nat.le_of_ble_eq_true rfl, Nat.le_of_ble_eq_true rfl⟩ rfl rfl) ⟨se_blind se_ZN_ok, va_recv hK hP (ci := 2) (q0 := 1) rfl rfl, se_pre se_ZN_ok hP hK hD hZ⟩ rfl rfl hl.1 rfl (lv_room (Nat.le_of_ble_eq_true rfl)) dX5_takeAlarm_63 ⟨Nat.zero_le _, Nat.zero_le _⟩) hD hS hA (fun H locs hP hD hS => ?_)
        refine lv_if_eq (tgt := 80) hx hb dX5_takeAlarm_66 (by decide) (fun c4 => ?_) (fun c4 => ?_)
        · refine lv_aload_n hx hb dX5_takeAlarm_80 rfl (lv_at hl 0 rfl) ?_
          refine va_get (D := D) (ci := 5) (v := .ref (h 6)) (C := RX5) (T := TX5) (N := 12) hx hb hts (se_iw iwX5) hown hK hP 0 rfl rfl 5 (by decide) (hts _ (List.mem_cons_of_mem _ qX5_f42)) (fun _ h9 => h9) rfl dX5_takeAlarm_81 ?_
          refine lv_iconst (v := 1) hx hb dX5_takeAlarm_84 (by decide) ?_
          refine va_putN (D := D) (ci := 0) (v := .int 1) (ty := .boolean) (C := RX0) (T := TX0) (N := 9) hx hb hts (se_iw iwX0) tyX0 tyX0_ok nmX0 hown hK hP hD hS 6 rfl rfl 7 (by decide) (va_Nw.use rfl (hZ _ nX5_f200 rfl)) (fun _ h9 => h9) rfl (by decide +kernel) rfl rfl (Nat.le_of_ble_eq_true rfl) dX5_takeAlarm_85 (fun H locs hP hD hS => ?_)
          replace hP : va_P D se_cl (se_WS k h (se_u (se_u g 5 3 ((g 5 3) + 1)) 6 7 1)) H := hP
          replace hD : va_D A (se_WS k h (se_u (se_u g 5 3 ((g 5 3) + 1)) 6 7 1)) := hD
          refine lv_aload_n hx hb dX5_takeAlarm_88 rfl (lv_at hl 0 rfl) ?_
          refine va_get (D := D) (ci := 5) (v := .ref (h 5)) (C := RX5) (T := TX5) (N := 12) hx hb hts (se_iw iwX5) hown hK hP 0 rfl rfl 4 (by decide) (hts _ (List.mem_cons_of_mem _ qX5_f35)) (fun _ h9 => h9) rfl dX5_takeAlarm_89 ?_
          refine se_cvE (va_runVN (C := RX4) (As := []) (rest := []) ⟨hx, hb, hml, hown, hts⟩ (c_S_Watch_doubleWait l D k h _ (se_u (se_u g 5 3 ((g 5 3) + 1)) 6 7 1)) (se_kVN 0 hts q_code_X4_doubleWait (hZ _ nX5_m320 rfl) q_ini_StreamEnd_Watch q_instanceMethod_X4_doubleWait q_sel_X4_doubleWait (by decide +kernel) ⟨Nat.le_of_ble_eq_true rfl, Nat.le_of_ble_eq_true rfl⟩ rfl rfl) ⟨se_blind se_ZN_ok, va_recv hK hP (ci := 4) (q0 := 5) rfl rfl, se_pre se_ZN_ok hP hK hD hZ⟩ rfl rfl hl.1 rfl (lv_room (Nat.le_of_ble_eq_true rfl)) dX5_takeAlarm_92 ⟨Nat.zero_le _, Nat.zero_le _⟩) hD hS hA (fun g3 H locs eg3 hP hD hS => ?_)
          refine lv_aload_n hx hb dX5_takeAlarm_95 rfl (lv_at hl 0 rfl) ?_
          refine va_get (D := D) (ci := 5) (v := .ref (h 5)) (C := RX5) (T := TX5) (N := 12) hx hb hts (se_iw iwX5) hown hK hP 0 rfl rfl 4 (by decide) (hts _ (List.mem_cons_of_mem _ qX5_f35)) (fun _ h9 => h9) rfl dX5_takeAlarm_96 ?_
          refine se_cvE (va_runVN (C := RX4) (As := []) (rest := []) ⟨hx, hb, hml, hown, hts⟩ (c_S_Watch_setAlarm l D k h _ g3) (se_kVN 0 hts q_code_X4_setAlarm (hZ _ nX5_m323 rfl) q_ini_StreamEnd_Watch q_instanceMethod_X4_setAlarm q_sel_X4_setAlarm (by decide +kernel) ⟨Nat.le_of_ble_eq_true rfl, Nat.le_of_ble_eq_true rfl⟩ rfl rfl) ⟨se_blind se_ZN_ok, va_recv hK hP (ci := 4) (q0 := 5) rfl rfl, se_pre se_ZN_ok hP hK hD hZ⟩ rfl rfl hl.1 rfl (lv_room (Nat.le_of_ble_eq_true rfl)) dX5_takeAlarm_99 ⟨Nat.zero_le _, Nat.zero_le _⟩) hD hS hA (fun g4 H locs eg4 hP hD hS => ?_)
          exact se_rv hx hb hr hlocks hK hP hD hS dX5_takeAlarm_102 (by subst eg3; subst eg4; rw [F_S_takeAlarm, if_pos c1, if_neg c2, if_neg c3, if_pos c4])
        · refine lv_aload_n hx hb dX5_takeAlarm_69 rfl (lv_at hl 0 rfl) ?_
          refine va_get (D := D) (ci := 5) (v := .ref (h 6)) (C := RX5) (T := TX5) (N := 12) hx hb hts (se_iw iwX5) hown hK hP 0 rfl rfl 5 (by decide) (hts _ (List.mem_cons_of_mem _ qX5_f42)) (fun _ h9 => h9) rfl dX5_takeAlarm_70 ?_
          refine lv_iconst (v := 1) hx hb dX5_takeAlarm_73 (by decide) ?_
          refine va_putN (D := D) (ci := 0) (v := .int 1) (ty := .boolean) (C := RX0) (T := TX0) (N := 9) hx hb hts (se_iw iwX0) tyX0 tyX0_ok nmX0 hown hK hP hD hS 6 rfl rfl 6 (by decide) (va_Nw.use rfl (hZ _ nX5_f179 rfl)) (fun _ h9 => h9) rfl (by decide +kernel) rfl rfl (Nat.le_of_ble_eq_true rfl) dX5_takeAlarm_74 (fun H locs hP hD hS => ?_)
          replace hP : va_P D se_cl (se_WS k h (se_u (se_u g 5 3 ((g 5 3) + 1)) 6 6 1)) H := hP
          replace hD : va_D A (se_WS k h (se_u (se_u g 5 3 ((g 5 3) + 1)) 6 6 1)) := hD
          refine lv_goto (tgt := 88) hx hb dX5_takeAlarm_77 (by decide) ?_
          refine lv_aload_n hx hb dX5_takeAlarm_88 rfl (lv_at hl 0 rfl) ?_
          refine va_get (D := D) (ci := 5) (v := .ref (h 5)) (C := RX5) (T := TX5) (N := 12) hx hb hts (se_iw iwX5) hown hK hP 0 rfl rfl 4 (by decide) (hts _ (List.mem_cons_of_mem _ qX5_f35)) (fun _ h9 => h9) rfl dX5_takeAlarm_89 ?_
          refine se_cvE (va_runVN (C := RX4) (As := []) (rest := []) ⟨hx, hb, hml, hown, hts⟩ (c_S_Watch_doubleWait l D k h _ (se_u (se_u g 5 3 ((g 5 3) + 1)) 6 6 1)) (se_kVN 0 hts q_code_X4_doubleWait (hZ _ nX5_m320 rfl) q_ini_StreamEnd_Watch q_instanceMethod_X4_doubleWait q_sel_X4_doubleWait (by decide +kernel) ⟨Nat.le_of_ble_eq_true rfl, Nat.le_of_ble_eq_true rfl⟩ rfl rfl) ⟨se_blind se_ZN_ok, va_recv hK hP (ci := 4) (q0 := 5) rfl rfl, se_pre se_ZN_ok hP hK hD hZ⟩ rfl rfl hl.1 rfl (lv_room (Nat.le_of_ble_eq_true rfl)) dX5_takeAlarm_92 ⟨Nat.zero_le _, Nat.zero_le _⟩) hD hS hA (fun g5 H locs eg5 hP hD hS => ?_)
          refine lv_aload_n hx hb dX5_takeAlarm_95 rfl (lv_at hl 0 rfl) ?_
          refine va_get (D := D) (ci := 5) (v := .ref (h 5)) (C := RX5) (T := TX5) (N := 12) hx hb hts (se_iw iwX5) hown hK hP 0 rfl rfl 4 (by decide) (hts _ (List.mem_cons_of_mem _ qX5_f35)) (fun _ h9 => h9) rfl dX5_takeAlarm_96 ?_
          refine se_cvE (va_runVN (C := RX4) (As := []) (rest := []) ⟨hx, hb, hml, hown, hts⟩ (c_S_Watch_setAlarm l D k h _ g5) (se_kVN 0 hts q_code_X4_setAlarm (hZ _ nX5_m323 rfl) q_ini_StreamEnd_Watch q_instanceMethod_X4_setAlarm q_sel_X4_setAlarm (by decide +kernel) ⟨Nat.le_of_ble_eq_true rfl, Nat.le_of_ble_eq_true rfl⟩ rfl rfl) ⟨se_blind se_ZN_ok, va_recv hK hP (ci := 4) (q0 := 5) rfl rfl, se_pre se_ZN_ok hP hK hD hZ⟩ rfl rfl hl.1 rfl (lv_room (Nat.le_of_ble_eq_true rfl)) dX5_takeAlarm_99 ⟨Nat.zero_le _, Nat.zero_le _⟩) hD hS hA (fun g6 H locs eg6 hP hD hS => ?_)
          exact se_rv hx hb hr hlocks hK hP hD hS dX5_takeAlarm_102 (by subst eg5; subst eg6; rw [F_S_takeAlarm, if_pos c1, if_neg c2, if_neg c3, if_neg c4])
      · exact J48 (se_u g 5 3 ((g 5 3) + 1)) _ _ ls (by rw [F_S_takeAlarm, if_pos c1, if_neg c2, if_pos c3]) hP hD hS (lv_sub hl [0] rfl)
  · refine lv_aload_n hx hb dX5_takeAlarm_25 rfl (lv_at hl 0 rfl) ?_
    refine lv_bipush (v := 11) hx hb dX5_takeAlarm_26 (by decide) ?_
    refine se_cvE (va_runV (C := RX5) (As := [.int 11]) (rest := []) ⟨hx, hb, hml, hown, hts⟩ (c_S_halt l D k h _ (se_u g 5 3 ((g 5 3) + 1)) 11) (se_kV 1 hts q_code_X5_halt qX5_m132 q_ini_StreamEnd q_instanceMethod_X5_halt q_sel_X5_halt (by decide +kernel) ⟨Nat.le_of_ble_eq_true rfl, Nat.le_of_ble_eq_true rfl⟩ rfl rfl) ⟨se_blind se_ZN_ok, va_recv hK hP (ci := 5) (q0 := 0) rfl rfl, se_pre se_ZN_ok hP hK hD hZ⟩ rfl rfl hl.1 rfl (lv_room (Nat.le_of_ble_eq_true rfl)) dX5_takeAlarm_28 ⟨Nat.zero_le _, Nat.zero_le _⟩) hD hS hA (fun g7 H locs eg7 hP hD hS => ?_)
    exact se_rv hx hb hr hlocks hK hP hD hS dX5_takeAlarm_31 (by subst eg7; rw [F_S_takeAlarm, if_neg c1])
set_option maxRecDepth 100000 in
set_option maxHeartbeats 4000000 in
theorem c_S_takeEvents (l : Launch) (D : va_G) (k : Nat → ClassId) (h : Nat → Nat) (sz : Nat) (g : se_G)  : Met l yX5_takeEvents (se_w_X5_takeEvents) ({ frames := 3, cells := 0, slots := 0, locals := 61 }) (va_Pc [.ref (h 0)] (se_Pre D se_cl [(k 2, .byte), (k 4, .int), (k 8, .byte), (k 10, .byte)] (se_WS k h g) se_ZN sz)) (se_Qv D se_cl [(k 2, .byte), (k 4, .int), (k 8, .byte), (k 10, .byte)] (se_WS k h) (F_S_takeEvents g) (va_A (se_WS k h g) sz)) 0 0 (va_A (se_WS k h g) sz) := by
  refine se_met (Qc := se_Qv D se_cl [(k 2, .byte), (k 4, .int), (k 8, .byte), (k 10, .byte)] (se_WS k h) (F_S_takeEvents g)) (cc := cX5_takeEvents) (maxL := 1) (ret := none) (by decide) rfl (Nat.le_of_ble_eq_true rfl) ?_
  intro p e s m below meth c ls A hx hb hr hts hown hlocks hml hA hP hK hD hS hZ hl
  replace hl : lv_has ls 1 [(0, .ref (h 0))] := hl
  have J28 : ∀ (gj28 : se_G) (H : Heap) (locs : List Loc) (ls : Array Slot), F_S_takeEvents_j28 gj28 = F_S_takeEvents g → va_P D se_cl (se_WS k h gj28) H → va_D A (se_WS k h gj28) → va_S A s.heap H locs → lv_has ls 1 [(0, .ref (h 0))] → W p l e ({ frames := 3, cells := 0, slots := 0, locals := 61 }) s m [.ref (h 0)].toArray below meth c H locs 0 0 (MQ below (se_Qv D se_cl [(k 2, .byte), (k 4, .int), (k 8, .byte), (k 10, .byte)] (se_WS k h) (F_S_takeEvents g) A) [.ref (h 0)].toArray s 0 0 A) (F0 m 28 ls []) := by
    intro gj28 H locs ls hF hP hD hS hl
    refine lv_aload_n hx hb dX5_takeEvents_28 rfl (lv_at hl 0 rfl) ?_
    refine va_get (D := D) (ci := 5) (v := .ref (h 5)) (C := RX5) (T := TX5) (N := 12) hx hb hts (se_iw iwX5) hown hK hP 0 rfl rfl 4 (by decide) (hts _ (List.mem_cons_of_mem _ qX5_f35)) (fun _ h9 => h9) rfl dX5_takeEvents_29 ?_
    refine va_getN (D := D) (ci := 4) (v := .int (gj28 5 1)) (C := RX4) (T := TX4) (N := 11) hx hb hts (se_iw iwX4) hown hK hP 5 rfl rfl 1 (by decide) (va_Nw.use rfl (hZ _ nX5_f155 rfl)) (fun _ h9 => h9) rfl dX5_takeEvents_32 ?_
    refine lv_if_eq (tgt := 59) hx hb dX5_takeEvents_35 (by decide) (fun c2 => ?_) (fun c2 => ?_)
    · exact se_rv hx hb hr hlocks hK hP hD hS dX5_takeEvents_59 (by rw [← hF, F_S_takeEvents_j28, if_pos c2])
    · refine lv_aload_n hx hb dX5_takeEvents_38 rfl (lv_at hl 0 rfl) ?_
      refine va_get (D := D) (ci := 5) (v := .ref (h 5)) (C := RX5) (T := TX5) (N := 12) hx hb hts (se_iw iwX5) hown hK hP 0 rfl rfl 4 (by decide) (hts _ (List.mem_cons_of_mem _ qX5_f35)) (fun _ h9 => h9) rfl dX5_takeEvents_39 ?_
      refine va_getN (D := D) (ci := 4) (v := .int (gj28 5 0)) (C := RX4) (T := TX4) (N := 11) hx hb hts (se_iw iwX4) hown hK hP 5 rfl rfl 0 (by decide) (va_Nw.use rfl (hZ _ nX5_f150 rfl)) (fun _ h9 => h9) rfl dX5_takeEvents_42 ?_
      refine lv_aload_n hx hb dX5_takeEvents_45 rfl (lv_at hl 0 rfl) ?_
      refine va_get (D := D) (ci := 5) (v := .ref (h 5)) (C := RX5) (T := TX5) (N := 12) hx hb hts (se_iw iwX5) hown hK hP 0 rfl rfl 4 (by decide) (hts _ (List.mem_cons_of_mem _ qX5_f35)) (fun _ h9 => h9) rfl dX5_takeEvents_46 ?_
      refine va_getN (D := D) (ci := 4) (v := .int (gj28 5 2)) (C := RX4) (T := TX4) (N := 11) hx hb hts (se_iw iwX4) hown hK hP 5 rfl rfl 2 (by decide) (va_Nw.use rfl (hZ _ nX5_f311 rfl)) (fun _ h9 => h9) rfl dX5_takeEvents_49 ?_
      refine lv_icmp_lt (tgt := 59) hx hb dX5_takeEvents_52 (by decide) (fun c3 => ?_) (fun c3 => ?_)
      · exact se_rv hx hb hr hlocks hK hP hD hS dX5_takeEvents_59 (by rw [← hF, F_S_takeEvents_j28, if_neg c2, if_pos c3])
      · refine lv_aload_n hx hb dX5_takeEvents_55 rfl (lv_at hl 0 rfl) ?_
        refine se_cvE (va_runV (C := RX5) (As := []) (rest := []) ⟨hx, hb, hml, hown, hts⟩ (c_S_takeAlarm l D k h _ gj28) (se_kV 0 hts q_code_X5_takeAlarm qX5_m314 q_ini_StreamEnd q_instanceMethod_X5_takeAlarm q_sel_X5_takeAlarm (by decide +kernel) ⟨Nat.le_of_ble_eq_true rfl, Nat.le_of_ble_eq_true rfl⟩ rfl rfl) ⟨se_blind se_ZN_ok, va_recv hK hP (ci := 5) (q0 := 0) rfl rfl, se_pre se_ZN_ok hP hK hD hZ⟩ rfl rfl hl.1 rfl (lv_room (Nat.le_of_ble_eq_true rfl)) dX5_takeEvents_56 ⟨Nat.zero_le _, Nat.zero_le _⟩) hD hS hA (fun g1 H locs eg1 hP hD hS => ?_)
        exact se_rv hx hb hr hlocks hK hP hD hS dX5_takeEvents_59 (by subst eg1; rw [← hF, F_S_takeEvents_j28, if_neg c2, if_neg c3])
  have hF : F_S_takeEvents g = F_S_takeEvents g := rfl
  refine lv_aload_n hx hb dX5_takeEvents_0 rfl (lv_at hl 0 rfl) ?_
  refine va_get (D := D) (ci := 5) (v := .int (g 0 9)) (C := RX5) (T := TX5) (N := 12) hx hb hts (se_iw iwX5) hown hK hP 0 rfl rfl 9 (by decide) (hts _ (List.mem_cons_of_mem _ qX5_f60)) (fun _ h9 => h9) rfl dX5_takeEvents_1 ?_
  refine lv_bipush (v := 10) hx hb dX5_takeEvents_4 (by decide) ?_
  refine lv_icmp_ne (tgt := 28) hx hb dX5_takeEvents_6 (by decide) (fun c1 => ?_) (fun c1 => ?_)
  · exact J28 g _ _ ls (by rw [F_S_takeEvents, if_neg c1]) hP hD hS (lv_sub hl [0] rfl)
  · refine lv_aload_n hx hb dX5_takeEvents_9 rfl (lv_at hl 0 rfl) ?_
    refine va_get (D := D) (ci := 5) (v := .ref (h 5)) (C := RX5) (T := TX5) (N := 12) hx hb hts (se_iw iwX5) hown hK hP 0 rfl rfl 4 (by decide) (hts _ (List.mem_cons_of_mem _ qX5_f35)) (fun _ h9 => h9) rfl dX5_takeEvents_10 ?_
    refine va_getN (D := D) (ci := 4) (v := .int (g 5 0)) (C := RX4) (T := TX4) (N := 11) hx hb hts (se_iw iwX4) hown hK hP 5 rfl rfl 0 (by decide) (va_Nw.use rfl (hZ _ nX5_f150 rfl)) (fun _ h9 => h9) rfl dX5_takeEvents_13 ?_
    refine lv_aload_n hx hb dX5_takeEvents_16 rfl (lv_at hl 0 rfl) ?_
    refine va_get (D := D) (ci := 5) (v := .int (g 0 11)) (C := RX5) (T := TX5) (N := 12) hx hb hts (se_iw iwX5) hown hK hP 0 rfl rfl 11 (by decide) (hts _ (List.mem_cons_of_mem _ qX5_f66)) (fun _ h9 => h9) rfl dX5_takeEvents_17 ?_
    refine lv_icmp_lt (tgt := 28) hx hb dX5_takeEvents_20 (by decide) (fun c4 => ?_) (fun c4 => ?_)
    · exact J28 g _ _ ls (by rw [F_S_takeEvents, if_pos c1, if_pos c4]) hP hD hS (lv_sub hl [0] rfl)
    · refine lv_aload_n hx hb dX5_takeEvents_23 rfl (lv_at hl 0 rfl) ?_
      refine lv_iconst (v := 0) hx hb dX5_takeEvents_24 (by decide) ?_
      refine se_cvE (va_runV (C := RX5) (As := [.int 0]) (rest := []) ⟨hx, hb, hml, hown, hts⟩ (c_S_halt l D k h _ g 0) (se_kV 1 hts q_code_X5_halt qX5_m132 q_ini_StreamEnd q_instanceMethod_X5_halt q_sel_X5_halt (by decide +kernel) ⟨Nat.le_of_ble_eq_true rfl, Nat.le_of_ble_eq_true rfl⟩ rfl rfl) ⟨se_blind se_ZN_ok, va_recv hK hP (ci := 5) (q0 := 0) rfl rfl, se_pre se_ZN_ok hP hK hD hZ⟩ rfl rfl hl.1 rfl (lv_room (Nat.le_of_ble_eq_true rfl)) dX5_takeEvents_25 ⟨Nat.zero_le _, Nat.zero_le _⟩) hD hS hA (fun g2 H locs eg2 hP hD hS => ?_)
      exact J28 g2 _ _ ls (by subst eg2; rw [F_S_takeEvents, if_pos c1, if_neg c4]) hP hD hS (lv_sub hl [0] rfl)
set_option maxRecDepth 100000 in
set_option maxHeartbeats 4000000 in
theorem c_S_Segment_headIs_9 (l : Launch) (D : va_G) (k : Nat → ClassId) (h : Nat → Nat) (sz : Nat) (g : se_G) (p1 : Int32) (p2 : Int32) (p3 : Int32) (p4 : Int32) (p5 : Int32) : Met l yX3_headIs (se_w_X3_headIs) ({ frames := 0, cells := 0, slots := 0, locals := 0 }) (va_Pc [.ref (h 9), .int p1, .int p2, .int p3, .int p4, .int p5] (se_Pre D se_cl [(k 2, .byte), (k 4, .int), (k 8, .byte), (k 10, .byte)] (se_WS k h g) se_ZN sz)) (se_Qv D se_cl [(k 2, .byte), (k 4, .int), (k 8, .byte), (k 10, .byte)] (se_WS k h) (F_S_Segment_headIs_9 g p1 p2 p3 p4 p5) (va_A (se_WS k h g) sz)) 0 0 (va_A (se_WS k h g) sz) := by
  refine se_met (Qc := se_Qv D se_cl [(k 2, .byte), (k 4, .int), (k 8, .byte), (k 10, .byte)] (se_WS k h) (F_S_Segment_headIs_9 g p1 p2 p3 p4 p5)) (cc := cX3_headIs) (maxL := 6) (ret := none) (by decide) rfl (Nat.le_of_ble_eq_true rfl) ?_
  intro p e s m below meth c ls A hx hb hr hts hown hlocks hml hA hP hK hD hS hZ hl
  replace hl : lv_has ls 6 [(0, .ref (h 9)), (1, .int p1), (2, .int p2), (3, .int p3), (4, .int p4), (5, .int p5)] := hl
  have hF : F_S_Segment_headIs_9 g p1 p2 p3 p4 p5 = F_S_Segment_headIs_9 g p1 p2 p3 p4 p5 := rfl
  refine lv_aload_n hx hb dX3_headIs_0 rfl (lv_at hl 0 rfl) ?_
  refine lv_iload_n hx hb dX3_headIs_1 rfl (lv_at hl 1 rfl) ?_
  refine va_put (D := D) (ci := 3) (v := .int p1) (ty := .int) (C := RX3) (T := TX3) (N := 7) hx hb hts (se_iw iwX3) tyX3 tyX3_ok nmX3 hown hK hP hD hS 9 rfl rfl 2 (by decide) (hts _ (List.mem_cons_of_mem _ qX3_f15)) (fun _ h9 => h9) rfl (by decide +kernel) rfl rfl (Nat.le_of_ble_eq_true rfl) dX3_headIs_2 (fun H locs hP hD hS => ?_)
  replace hP : va_P D se_cl (se_WS k h (se_u g 9 2 p1)) H := hP
  replace hD : va_D A (se_WS k h (se_u g 9 2 p1)) := hD
  refine lv_aload_n hx hb dX3_headIs_5 rfl (lv_at hl 0 rfl) ?_
  refine lv_iload_n hx hb dX3_headIs_6 rfl (lv_at hl 2 rfl) ?_
  refine va_put (D := D) (ci := 3) (v := .int p2) (ty := .int) (C := RX3) (T := TX3) (N := 7) hx hb hts (se_iw iwX3) tyX3 tyX3_ok nmX3 hown hK hP hD hS 9 rfl rfl 3 (by decide) (hts _ (List.mem_cons_of_mem _ qX3_f19)) (fun _ h9 => h9) rfl (by decide +kernel) rfl rfl (Nat.le_of_ble_eq_true rfl) dX3_headIs_7 (fun H locs hP hD hS => ?_)
  replace hP : va_P D se_cl (se_WS k h (se_u (se_u g 9 2 p1) 9 3 p2)) H := hP
  replace hD : va_D A (se_WS k h (se_u (se_u g 9 2 p1) 9 3 p2)) := hD
  refine lv_aload_n hx hb dX3_headIs_10 rfl (lv_at hl 0 rfl) ?_
  refine lv_iload_n hx hb dX3_headIs_11 rfl (lv_at hl 3 rfl) ?_
  refine va_put (D := D) (ci := 3) (v := .int p3) (ty := .int) (C := RX3) (T := TX3) (N := 7) hx hb hts (se_iw iwX3) tyX3 tyX3_ok nmX3 hown hK hP hD hS 9 rfl rfl 4 (by decide) (hts _ (List.mem_cons_of_mem _ qX3_f22)) (fun _ h9 => h9) rfl (by decide +kernel) rfl rfl (Nat.le_of_ble_eq_true rfl) dX3_headIs_12 (fun H locs hP hD hS => ?_)
  replace hP : va_P D se_cl (se_WS k h (se_u (se_u (se_u g 9 2 p1) 9 3 p2) 9 4 p3)) H := hP
  replace hD : va_D A (se_WS k h (se_u (se_u (se_u g 9 2 p1) 9 3 p2) 9 4 p3)) := hD
  refine lv_aload_n hx hb dX3_headIs_15 rfl (lv_at hl 0 rfl) ?_
  refine lv_iload hx hb dX3_headIs_16 (lv_at hl 4 rfl) ?_
  refine va_put (D := D) (ci := 3) (v := .int p4) (ty := .int) (C := RX3) (T := TX3) (N := 7) hx hb hts (se_iw iwX3) tyX3 tyX3_ok nmX3 hown hK hP hD hS 9 rfl rfl 5 (by decide) (hts _ (List.mem_cons_of_mem _ qX3_f25)) (fun _ h9 => h9) rfl (by decide +kernel) rfl rfl (Nat.le_of_ble_eq_true rfl) dX3_headIs_18 (fun H locs hP hD hS => ?_)
  replace hP : va_P D se_cl (se_WS k h (se_u (se_u (se_u (se_u g 9 2 p1) 9 3 p2) 9 4 p3) 9 5 p4)) H := hP
  replace hD : va_D A (se_WS k h (se_u (se_u (se_u (se_u g 9 2 p1) 9 3 p2) 9 4 p3) 9 5 p4)) := hD
  refine lv_aload_n hx hb dX3_headIs_21 rfl (lv_at hl 0 rfl) ?_
  refine lv_iload hx hb dX3_headIs_22 (lv_at hl 5 rfl) ?_
  refine va_put (D := D) (ci := 3) (v := .int p5) (ty := .int) (C := RX3) (T := TX3) (N := 7) hx hb hts (se_iw iwX3) tyX3 tyX3_ok nmX3 hown hK hP hD hS 9 rfl rfl 6 (by decide) (hts _ (List.mem_cons_of_mem _ qX3_f28)) (fun _ h9 => h9) rfl (by decide +kernel) rfl rfl (Nat.le_of_ble_eq_true rfl) dX3_headIs_24 (fun H locs hP hD hS => ?_)
  replace hP : va_P D se_cl (se_WS k h (se_u (se_u (se_u (se_u (se_u g 9 2 p1) 9 3 p2) 9 4 p3) 9 5 p4) 9 6 p5)) H := hP
  replace hD : va_D A (se_WS k h (se_u (se_u (se_u (se_u (se_u g 9 2 p1) 9 3 p2) 9 4 p3) 9 5 p4) 9 6 p5)) := hD
  exact se_rv hx hb hr hlocks hK hP hD hS dX3_headIs_27 (by rw [F_S_Segment_headIs_9])
set_option maxRecDepth 100000 in
set_option maxHeartbeats 4000000 in
theorem c_S_Segment_append_9 (l : Launch) (D : va_G) (k : Nat → ClassId) (h : Nat → Nat) (sz : Nat) (g : se_G) (p1 : Int32) : Met l yX3_append (se_w_X3_append) ({ frames := 0, cells := 0, slots := 0, locals := 0 }) (va_Pc [.ref (h 9), .int p1] (se_Pre D se_cl [(k 2, .byte), (k 4, .int), (k 8, .byte), (k 10, .byte)] (se_WS k h g) se_ZN sz)) (se_Qv D se_cl [(k 2, .byte), (k 4, .int), (k 8, .byte), (k 10, .byte)] (se_WS k h) (F_S_Segment_append_9 g p1) (va_A (se_WS k h g) sz)) 0 0 (va_A (se_WS k h g) sz) := by
  refine se_met (Qc := se_Qv D se_cl [(k 2, .byte), (k 4, .int), (k 8, .byte), (k 10, .byte)] (se_WS k h) (F_S_Segment_append_9 g p1)) (cc := cX3_append) (maxL := 2) (ret := none) (by decide) rfl (Nat.le_of_ble_eq_true rfl) ?_
  intro p e s m below meth c ls A hx hb hr hts hown hlocks hml hA hP hK hD hS hZ hl
  replace hl : lv_has ls 2 [(0, .ref (h 9)), (1, .int p1)] := hl
  have hF : F_S_Segment_append_9 g p1 = F_S_Segment_append_9 g p1 := rfl
  refine lv_aload_n hx hb dX3_append_0 rfl (lv_at hl 0 rfl) ?_
  refine va_get (D := D) (ci := 3) (v := .int (g 9 1)) (C := RX3) (T := TX3) (N := 7) hx hb hts (se_iw iwX3) hown hK hP 9 rfl rfl 1 (by decide) (hts _ (List.mem_cons_of_mem _ qX3_f31)) (fun _ h9 => h9) rfl dX3_append_1 ?_
  refine lv_if_lt (tgt := 39) hx hb dX3_append_4 (by decide) (fun c1 => ?_) (fun c1 => ?_)
  · exact se_rv hx hb hr hlocks hK hP hD hS dX3_append_39 (by rw [F_S_Segment_append_9, if_pos c1])
  · refine lv_aload_n hx hb dX3_append_7 rfl (lv_at hl 0 rfl) ?_
    refine va_get (D := D) (ci := 3) (v := .int (g 9 1)) (C := RX3) (T := TX3) (N := 7) hx hb hts (se_iw iwX3) hown hK hP 9 rfl rfl 1 (by decide) (hts _ (List.mem_cons_of_mem _ qX3_f31)) (fun _ h9 => h9) rfl dX3_append_8 ?_
    refine lv_aload_n hx hb dX3_append_11 rfl (lv_at hl 0 rfl) ?_
    refine va_get (D := D) (ci := 3) (v := .ref (h 10)) (C := RX3) (T := TX3) (N := 7) hx hb hts (se_iw iwX3) hown hK hP 9 rfl rfl 0 (by decide) (hts _ (List.mem_cons_of_mem _ qX3_f9)) (fun _ h9 => h9) rfl dX3_append_12 ?_
    refine va_alen hx hb hK hP 10 3 rfl rfl (v := 1460) rfl dX3_append_15 ?_
    refine lv_icmp_ge (tgt := 39) hx hb dX3_append_16 (by decide) (fun c2 => ?_) (fun c2 => ?_)
    · exact se_rv hx hb hr hlocks hK hP hD hS dX3_append_39 (by rw [F_S_Segment_append_9, if_neg c1, if_pos c2])
    · refine lv_aload_n hx hb dX3_append_19 rfl (lv_at hl 0 rfl) ?_
      refine va_get (D := D) (ci := 3) (v := .ref (h 10)) (C := RX3) (T := TX3) (N := 7) hx hb hts (se_iw iwX3) hown hK hP 9 rfl rfl 0 (by decide) (hts _ (List.mem_cons_of_mem _ qX3_f9)) (fun _ h9 => h9) rfl dX3_append_20 ?_
      refine lv_aload_n hx hb dX3_append_23 rfl (lv_at hl 0 rfl) ?_
      refine va_get (D := D) (ci := 3) (v := .int (g 9 1)) (C := RX3) (T := TX3) (N := 7) hx hb hts (se_iw iwX3) hown hK hP 9 rfl rfl 1 (by decide) (hts _ (List.mem_cons_of_mem _ qX3_f31)) (fun _ h9 => h9) rfl dX3_append_24 ?_
      refine lv_iload_n hx hb dX3_append_27 rfl (lv_at hl 1 rfl) ?_
      refine va_bast hx hb hK hP hD hS 10 3 rfl rfl (se_inN (N := 1460) (by decide) c1 c2) dX3_append_28 (fun H locs hP hD hS => ?_)
      replace hP : va_P D se_cl (se_WS k h (se_u g 10 (Int32.toNatClampNeg (g 9 1)) (vp_nar .byte p1))) H := hP
      replace hD : va_D A (se_WS k h (se_u g 10 (Int32.toNatClampNeg (g 9 1)) (vp_nar .byte p1))) := hD
      refine lv_aload_n hx hb dX3_append_29 rfl (lv_at hl 0 rfl) ?_
      refine lv_dup hx hb dX3_append_30 rfl ?_
      refine va_get (D := D) (ci := 3) (v := .int (g 9 1)) (C := RX3) (T := TX3) (N := 7) hx hb hts (se_iw iwX3) hown hK hP 9 rfl rfl 1 (by decide) (hts _ (List.mem_cons_of_mem _ qX3_f31)) (fun _ h9 => h9) rfl dX3_append_31 ?_
      refine lv_iconst (v := 1) hx hb dX3_append_34 (by decide) ?_
      refine lv_iadd hx hb dX3_append_35 ?_
      refine va_put (D := D) (ci := 3) (v := .int ((g 9 1) + 1)) (ty := .int) (C := RX3) (T := TX3) (N := 7) hx hb hts (se_iw iwX3) tyX3 tyX3_ok nmX3 hown hK hP hD hS 9 rfl rfl 1 (by decide) (hts _ (List.mem_cons_of_mem _ qX3_f31)) (fun _ h9 => h9) rfl (by decide +kernel) rfl rfl (Nat.le_of_ble_eq_true rfl) dX3_append_36 (fun H locs hP hD hS => ?_)
      replace hP : va_P D se_cl (se_WS k h (se_u (se_u g 10 (Int32.toNatClampNeg (g 9 1)) (vp_nar .byte p1)) 9 1 ((g 9 1) + 1))) H := hP
      replace hD : va_D A (se_WS k h (se_u (se_u g 10 (Int32.toNatClampNeg (g 9 1)) (vp_nar .byte p1)) 9 1 ((g 9 1) + 1))) := hD
      exact se_rv hx hb hr hlocks hK hP hD hS dX3_append_39 (by rw [F_S_Segment_append_9, if_neg c1, if_neg c2])
set_option maxRecDepth 100000 in
set_option maxHeartbeats 4000000 in
theorem c_S_Outgoing_copyTo (l : Launch) (D : va_G) (k : Nat → ClassId) (h : Nat → Nat) (sz : Nat) (g : se_G) (p2 : Int32) (p3 : Int32) : Met l yX2_copyTo (se_w_X2_copyTo) ({ frames := 1, cells := 0, slots := 0, locals := 21 }) (va_Pc [.ref (h 1), .ref (h 9), .int p2, .int p3] (se_Pre D se_cl [(k 2, .byte), (k 4, .int), (k 8, .byte), (k 10, .byte)] (se_WS k h g) se_ZN sz)) (se_Qv D se_cl [(k 2, .byte), (k 4, .int), (k 8, .byte), (k 10, .byte)] (se_WS k h) (F_S_Outgoing_copyTo g p2 p3) (va_A (se_WS k h g) sz)) 0 0 (va_A (se_WS k h g) sz) := by
  refine se_met (Qc := se_Qv D se_cl [(k 2, .byte), (k 4, .int), (k 8, .byte), (k 10, .byte)] (se_WS k h) (F_S_Outgoing_copyTo g p2 p3)) (cc := cX2_copyTo) (maxL := 5) (ret := none) (by decide) rfl (Nat.le_of_ble_eq_true rfl) ?_
  intro p e s m below meth c ls A hx hb hr hts hown hlocks hml hA hP hK hD hS hZ hl
  replace hl : lv_has ls 5 [(0, .ref (h 1)), (1, .ref (h 9)), (2, .int p2), (3, .int p3)] := hl
  have L8 : ∀ (n : Nat) (gj8 : se_G) (v2_8 : Int32) (v3_8 : Int32) (v4_8 : Int32) (H : Heap) (locs : List Loc) (ls : Array Slot), ((v3_8).toInt - (v4_8).toInt).toNat < n → F_S_Outgoing_copyTo_j8 n gj8 v2_8 v3_8 v4_8 = F_S_Outgoing_copyTo g p2 p3 → va_P D se_cl (se_WS k h gj8) H → va_D A (se_WS k h gj8) → va_S A s.heap H locs → lv_has ls 5 [(0, .ref (h 1)), (1, .ref (h 9)), (2, .int v2_8), (3, .int v3_8), (4, .int v4_8)] → W p l e ({ frames := 1, cells := 0, slots := 0, locals := 21 }) s m [.ref (h 1), .ref (h 9), .int p2, .int p3].toArray below meth c H locs 0 0 (MQ below (se_Qv D se_cl [(k 2, .byte), (k 4, .int), (k 8, .byte), (k 10, .byte)] (se_WS k h) (F_S_Outgoing_copyTo g p2 p3) A) [.ref (h 1), .ref (h 9), .int p2, .int p3].toArray s 0 0 A) (F0 m 8 ls []) := by
    intro n
    induction n with
    | zero => intro gj8 v2_8 v3_8 v4_8 H locs ls hM; exact absurd hM (Nat.not_lt_zero _)
    | succ n ih =>
      intro gj8 v2_8 v3_8 v4_8 H locs ls hM hF hP hD hS hl
      refine lv_iload hx hb dX2_copyTo_8 (lv_at hl 4 rfl) ?_
      refine lv_iload_n hx hb dX2_copyTo_10 rfl (lv_at hl 3 rfl) ?_
      refine lv_icmp_ge (tgt := 42) hx hb dX2_copyTo_11 (by decide) (fun c1 => ?_) (fun c1 => ?_)
      · exact se_rv hx hb hr hlocks hK hP hD hS dX2_copyTo_42 (by rw [← hF, F_S_Outgoing_copyTo_j8, if_pos c1])
      · refine lv_aload_n hx hb dX2_copyTo_14 rfl (lv_at hl 1 rfl) ?_
        refine lv_aload_n hx hb dX2_copyTo_15 rfl (lv_at hl 0 rfl) ?_
        refine va_get (D := D) (ci := 2) (v := .ref (h 2)) (C := RX2) (T := TX2) (N := 13) hx hb hts (se_iw iwX2) hown hK hP 1 rfl rfl 0 (by decide) (hts _ (List.mem_cons_of_mem _ qX2_f9)) (fun _ h9 => h9) rfl dX2_copyTo_16 ?_
        refine lv_aload_n hx hb dX2_copyTo_19 rfl (lv_at hl 0 rfl) ?_
        refine va_get (D := D) (ci := 2) (v := .int (gj8 1 1)) (C := RX2) (T := TX2) (N := 13) hx hb hts (se_iw iwX2) hown hK hP 1 rfl rfl 1 (by decide) (hts _ (List.mem_cons_of_mem _ qX2_f19)) (fun _ h9 => h9) rfl dX2_copyTo_20 ?_
        refine lv_iload_n hx hb dX2_copyTo_23 rfl (lv_at hl 2 rfl) ?_
        refine lv_iadd hx hb dX2_copyTo_24 ?_
        refine lv_iload hx hb dX2_copyTo_25 (lv_at hl 4 rfl) ?_
        refine lv_iadd hx hb dX2_copyTo_27 ?_
        refine lv_sipush (v := 2047) hx hb dX2_copyTo_28 (by decide) ?_
        refine lv_iand hx hb dX2_copyTo_31 ?_
        refine va_bald hx hb hK hP 2 0 rfl rfl (pk_andIn _ 11 (by decide) (by decide)) dX2_copyTo_32 ?_
        refine se_cvE (va_runVN (C := RX3) (As := [.int (gj8 2 (Int32.toNatClampNeg ((((gj8 1 1) + v2_8) + v4_8) &&& 2047)))]) (rest := []) ⟨hx, hb, hml, hown, hts⟩ (c_S_Segment_append_9 l D k h _ gj8 (gj8 2 (Int32.toNatClampNeg ((((gj8 1 1) + v2_8) + v4_8) &&& 2047)))) (se_kVN 1 hts q_code_X3_append (hZ _ nX2_m80 rfl) q_ini_StreamEnd_Segment q_instanceMethod_X3_append q_sel_X3_append (by decide +kernel) ⟨Nat.le_of_ble_eq_true rfl, Nat.le_of_ble_eq_true rfl⟩ rfl rfl) ⟨se_blind se_ZN_ok, va_recv hK hP (ci := 3) (q0 := 9) rfl rfl, se_pre se_ZN_ok hP hK hD hZ⟩ rfl rfl hl.1 rfl (lv_room (Nat.le_of_ble_eq_true rfl)) dX2_copyTo_33 ⟨Nat.zero_le _, Nat.zero_le _⟩) hD hS hA (fun g1 H locs eg1 hP hD hS => ?_)
        refine lv_iinc (v := (v4_8 + 1)) (lv' := [(4, .int (v4_8 + 1)), (0, .ref (h 1)), (1, .ref (h 9)), (2, .int v2_8), (3, .int v3_8)]) hx hb dX2_copyTo_36 hl (k := 4) rfl rfl (by decide) rfl (fun ls hl => ?_)
        refine lv_goto (tgt := 8) hx hb dX2_copyTo_39 (by decide) ?_
        exact ih g1 v2_8 v3_8 (v4_8 + 1) _ _ ls (se_dec c1 hM) (by subst eg1; rw [← hF, F_S_Outgoing_copyTo_j8, if_neg c1]) hP hD hS (lv_sub hl [1, 2, 3, 4, 0] rfl)
  have hF : F_S_Outgoing_copyTo g p2 p3 = F_S_Outgoing_copyTo g p2 p3 := rfl
  refine lv_aload_n hx hb dX2_copyTo_0 rfl (lv_at hl 1 rfl) ?_
  refine lv_iconst (v := 0) hx hb dX2_copyTo_1 (by decide) ?_
  refine va_putN (D := D) (ci := 3) (v := .int 0) (ty := .int) (C := RX3) (T := TX3) (N := 7) hx hb hts (se_iw iwX3) tyX3 tyX3_ok nmX3 hown hK hP hD hS 9 rfl rfl 1 (by decide) (va_Nw.use rfl (hZ _ nX2_f77 rfl)) (fun _ h9 => h9) rfl (by decide +kernel) rfl rfl (Nat.le_of_ble_eq_true rfl) dX2_copyTo_2 (fun H locs hP hD hS => ?_)
  replace hP : va_P D se_cl (se_WS k h (se_u g 9 1 0)) H := hP
  replace hD : va_D A (se_WS k h (se_u g 9 1 0)) := hD
  refine lv_iconst (v := 0) hx hb dX2_copyTo_5 (by decide) ?_
  refine lv_istore (lv' := [(4, .int 0), (0, .ref (h 1)), (1, .ref (h 9)), (2, .int p2), (3, .int p3)]) hx hb dX2_copyTo_6 hl (by decide) rfl (fun ls hl => ?_)
  exact L8 ((((p3) : Int32).toInt - ((0) : Int32).toInt).toNat + 1) (se_u g 9 1 0) p2 p3 0 _ _ ls (se_fuel _ _) (by rw [F_S_Outgoing_copyTo]) hP hD hS (lv_sub hl [1, 2, 3, 4, 0] rfl)
end
section
/-! written by program (wip/gen) -/
set_option maxRecDepth 100000 in
set_option maxHeartbeats 4000000 in
theorem c_S_make (l : Launch) (D : va_G) (k : Nat → ClassId) (h : Nat → Nat) (sz : Nat) (g : se_G) (p1 : Int32) (p2 : Int32) (p3 : Int32) (p4 : Int32) : Met l yX5_make (se_w_X5_make) ({ frames := 2, cells := 0, slots := 0, locals := 45 }) (va_Pc [.ref (h 0), .int p1, .int p2, .int p3, .int p4] (se_Pre D se_cl [(k 2, .byte), (k 4, .int), (k 8, .byte), (k 10, .byte)] (se_WS k h g) se_ZN sz)) (se_Qv D se_cl [(k 2, .byte), (k 4, .int), (k 8, .byte), (k 10, .byte)] (se_WS k h) (F_S_make g p1 p2 p3 p4) (va_A (se_WS k h g) sz)) 0 0 (va_A (se_WS k h g) sz) := by
  refine se_met (Qc := se_Qv D se_cl [(k 2, .byte), (k 4, .int), (k 8, .byte), (k 10, .byte)] (se_WS k h) (F_S_make g p1 p2 p3 p4)) (cc := cX5_make) (maxL := 7) (ret := none) (by decide) rfl (Nat.le_of_ble_eq_true rfl) ?_
  intro p e s m below meth c ls A hx hb hr hts hown hlocks hml hA hP hK hD hS hZ hl
  replace hl : lv_has ls 7 [(0, .ref (h 0)), (1, .int p1), (2, .int p2), (3, .int p3), (4, .int p4)] := hl
  have hF : F_S_make g p1 p2 p3 p4 = F_S_make g p1 p2 p3 p4 := rfl
  refine lv_aload_n hx hb dX5_make_0 rfl (lv_at hl 0 rfl) ?_
  refine va_get (D := D) (ci := 5) (v := .ref (h 3)) (C := RX5) (T := TX5) (N := 12) hx hb hts (se_iw iwX5) hown hK hP 0 rfl rfl 3 (by decide) (hts _ (List.mem_cons_of_mem _ qX5_f28)) (fun _ h9 => h9) rfl dX5_make_1 ?_
  refine va_getN (D := D) (ci := 1) (v := .int (g 3 1)) (C := RX1) (T := TX1) (N := 8) hx hb hts (se_iw iwX1) hown hK hP 3 rfl rfl 1 (by decide) (va_Nw.use rfl (hZ _ nX5_f365 rfl)) (fun _ h9 => h9) rfl dX5_make_4 ?_
  refine se_join (v := ((if (g 3 1) = 0 then 0 else 8) : Int32)) (pcJ := 16) (restJ := []) (ls := ls) (fun T => ?_) ?_
  · refine lv_if_eq (tgt := 15) hx hb dX5_make_7 (by decide) (fun c2 => ?_) (fun c2 => ?_)
    · refine lv_iconst (v := 0) hx hb dX5_make_15 (by decide) ?_
      exact T _ (by rw [if_pos c2])
    · refine lv_bipush (v := 8) hx hb dX5_make_10 (by decide) ?_
      refine lv_goto (tgt := 16) hx hb dX5_make_12 (by decide) ?_
      exact T _ (by rw [if_neg c2])
  refine lv_istore (lv' := [(5, .int ((if (g 3 1) = 0 then 0 else 8) : Int32)), (0, .ref (h 0)), (1, .int p1), (2, .int p2), (3, .int p3), (4, .int p4)]) hx hb dX5_make_16 hl (by decide) rfl (fun ls hl => ?_)
  refine lv_iload_n hx hb dX5_make_18 rfl (lv_at hl 2 rfl) ?_
  refine lv_iconst (v := 1) hx hb dX5_make_19 (by decide) ?_
  refine lv_iand hx hb dX5_make_20 ?_
  refine se_join (v := ((if (p1 &&& 1) = 0 then 0 else (g 0 0)) : Int32)) (pcJ := 32) (restJ := []) (ls := ls) (fun T => ?_) ?_
  · refine lv_if_eq (tgt := 31) hx hb dX5_make_21 (by decide) (fun c4 => ?_) (fun c4 => ?_)
    · refine lv_iconst (v := 0) hx hb dX5_make_31 (by decide) ?_
      exact T _ (by rw [if_pos c4])
    · refine lv_aload_n hx hb dX5_make_24 rfl (lv_at hl 1 rfl) ?_
      refine va_get (D := D) (ci := 5) (v := .int (g 0 0)) (C := RX5) (T := TX5) (N := 12) hx hb hts (se_iw iwX5) hown hK hP 0 rfl rfl 0 (by decide) (hts _ (List.mem_cons_of_mem _ qX5_f9)) (fun _ h9 => h9) rfl dX5_make_25 ?_
      refine lv_goto (tgt := 32) hx hb dX5_make_28 (by decide) ?_
      exact T _ (by rw [if_neg c4])
  refine lv_istore (lv' := [(6, .int ((if (p1 &&& 1) = 0 then 0 else (g 0 0)) : Int32)), (5, .int ((if (g 3 1) = 0 then 0 else 8) : Int32)), (0, .ref (h 0)), (1, .int p1), (2, .int p2), (3, .int p3), (4, .int p4)]) hx hb dX5_make_32 hl (by decide) rfl (fun ls hl => ?_)
  refine lv_aload_n hx hb dX5_make_34 rfl (lv_at hl 2 rfl) ?_
  refine va_get (D := D) (ci := 5) (v := .ref (h 9)) (C := RX5) (T := TX5) (N := 12) hx hb hts (se_iw iwX5) hown hK hP 0 rfl rfl 7 (by decide) (hts _ (List.mem_cons_of_mem _ qX5_f53)) (fun _ h9 => h9) rfl dX5_make_35 ?_
  refine lv_iload_n hx hb dX5_make_38 rfl (lv_at hl 3 rfl) ?_
  refine lv_iload hx hb dX5_make_39 (lv_at hl 1 rfl) ?_
  refine lv_ior hx hb dX5_make_41 ?_
  refine lv_iload_n hx hb dX5_make_42 rfl (lv_at hl 4 rfl) ?_
  refine lv_aload_n hx hb dX5_make_43 rfl (lv_at hl 2 rfl) ?_
  refine va_get (D := D) (ci := 5) (v := .ref (h 3)) (C := RX5) (T := TX5) (N := 12) hx hb hts (se_iw iwX5) hown hK hP 0 rfl rfl 3 (by decide) (hts _ (List.mem_cons_of_mem _ qX5_f28)) (fun _ h9 => h9) rfl dX5_make_44 ?_
  refine va_getN (D := D) (ci := 1) (v := .int (g 3 2)) (C := RX1) (T := TX1) (N := 8) hx hb hts (se_iw iwX1) hown hK hP 3 rfl rfl 2 (by decide) (va_Nw.use rfl (hZ _ nX5_f140 rfl)) (fun _ h9 => h9) rfl dX5_make_47 ?_
  refine lv_aload_n hx hb dX5_make_50 rfl (lv_at hl 2 rfl) ?_
  refine va_get (D := D) (ci := 5) (v := .ref (h 3)) (C := RX5) (T := TX5) (N := 12) hx hb hts (se_iw iwX5) hown hK hP 0 rfl rfl 3 (by decide) (hts _ (List.mem_cons_of_mem _ qX5_f28)) (fun _ h9 => h9) rfl dX5_make_51 ?_
  refine se_cp (va_runVN (C := RX1) (As := []) (rest := [.int (g 3 2), .int p2, .int (p1 ||| ((if (g 3 1) = 0 then 0 else 8) : Int32)), .ref (h 9)]) ⟨hx, hb, hml, hown, hts⟩ (c_S_Incoming_room l D k h _ g) (se_kVN 0 hts q_code_X1_room (hZ _ nX5_m263 rfl) q_ini_StreamEnd_Incoming q_instanceMethod_X1_room q_sel_X1_room (by decide +kernel) ⟨Nat.le_of_ble_eq_true rfl, Nat.le_of_ble_eq_true rfl⟩ rfl rfl) ⟨se_blind se_ZN_ok, va_recv hK hP (ci := 1) (q0 := 3) rfl rfl, se_pre se_ZN_ok hP hK hD hZ⟩ rfl rfl hl.1 rfl (lv_room (Nat.le_of_ble_eq_true rfl)) dX5_make_54 ⟨Nat.zero_le _, Nat.zero_le _⟩) hD hS hA (fun H locs hP hD hS => ?_)
  refine lv_iload hx hb dX5_make_57 (lv_at hl 0 rfl) ?_
  refine se_cvE (va_runVN (C := RX3) (As := [.int (p1 ||| ((if (g 3 1) = 0 then 0 else 8) : Int32)), .int p2, .int (g 3 2), .int (F_S_Incoming_room g), .int ((if (p1 &&& 1) = 0 then 0 else (g 0 0)) : Int32)]) (rest := []) ⟨hx, hb, hml, hown, hts⟩ (c_S_Segment_headIs_9 l D k h _ g (p1 ||| ((if (g 3 1) = 0 then 0 else 8) : Int32)) p2 (g 3 2) (F_S_Incoming_room g) ((if (p1 &&& 1) = 0 then 0 else (g 0 0)) : Int32)) (se_kVN 5 hts q_code_X3_headIs (hZ _ nX5_m252 rfl) q_ini_StreamEnd_Segment q_instanceMethod_X3_headIs q_sel_X3_headIs (by decide +kernel) ⟨Nat.le_of_ble_eq_true rfl, Nat.le_of_ble_eq_true rfl⟩ rfl rfl) ⟨se_blind se_ZN_ok, va_recv hK hP (ci := 3) (q0 := 9) rfl rfl, se_pre se_ZN_ok hP hK hD hZ⟩ rfl rfl hl.1 rfl (lv_room (Nat.le_of_ble_eq_true rfl)) dX5_make_59 ⟨Nat.zero_le _, Nat.zero_le _⟩) hD hS hA (fun g1 H locs eg1 hP hD hS => ?_)
  replace hF : (F_S_make_k2 (F_S_Segment_headIs_9 g (p1 ||| ((if (g 3 1) = 0 then 0 else 8) : Int32)) p2 (g 3 2) (F_S_Incoming_room g) ((if (p1 &&& 1) = 0 then 0 else (g 0 0)) : Int32)) p3 p4) = F_S_make g p1 p2 p3 p4 := by rw [F_S_make]
  rw [← eg1] at hF
  replace hF : F_S_make_k2 g1 p3 p4 = F_S_make g p1 p2 p3 p4 := hF
  refine lv_aload_n hx hb dX5_make_62 rfl (lv_at hl 2 rfl) ?_
  refine va_get (D := D) (ci := 5) (v := .ref (h 1)) (C := RX5) (T := TX5) (N := 12) hx hb hts (se_iw iwX5) hown hK hP 0 rfl rfl 2 (by decide) (hts _ (List.mem_cons_of_mem _ qX5_f21)) (fun _ h9 => h9) rfl dX5_make_63 ?_
  refine lv_aload_n hx hb dX5_make_66 rfl (lv_at hl 2 rfl) ?_
  refine va_get (D := D) (ci := 5) (v := .ref (h 9)) (C := RX5) (T := TX5) (N := 12) hx hb hts (se_iw iwX5) hown hK hP 0 rfl rfl 7 (by decide) (hts _ (List.mem_cons_of_mem _ qX5_f53)) (fun _ h9 => h9) rfl dX5_make_67 ?_
  refine lv_iload_n hx hb dX5_make_70 rfl (lv_at hl 5 rfl) ?_
  refine lv_iload hx hb dX5_make_71 (lv_at hl 6 rfl) ?_
  refine se_cvE (va_runVN (C := RX2) (As := [.ref (h 9), .int p3, .int p4]) (rest := []) ⟨hx, hb, hml, hown, hts⟩ (c_S_Outgoing_copyTo l D k h _ g1 p3 p4) (se_kVN 3 hts q_code_X2_copyTo (hZ _ nX5_m368 rfl) q_ini_StreamEnd_Outgoing q_instanceMethod_X2_copyTo q_sel_X2_copyTo (by decide +kernel) ⟨Nat.le_of_ble_eq_true rfl, Nat.le_of_ble_eq_true rfl⟩ rfl rfl) ⟨se_blind se_ZN_ok, va_recv hK hP (ci := 2) (q0 := 1) rfl rfl, se_pre se_ZN_ok hP hK hD hZ⟩ rfl rfl hl.1 rfl (lv_room (Nat.le_of_ble_eq_true rfl)) dX5_make_73 ⟨Nat.zero_le _, Nat.zero_le _⟩) hD hS hA (fun g2 H locs eg2 hP hD hS => ?_)
  replace hF : (F_S_make_k1 (F_S_Outgoing_copyTo g1 p3 p4)) = F_S_make g p1 p2 p3 p4 := by rw [← hF, F_S_make_k2]
  rw [← eg2] at hF
  replace hF : F_S_make_k1 g2 = F_S_make g p1 p2 p3 p4 := hF
  refine lv_aload_n hx hb dX5_make_76 rfl (lv_at hl 2 rfl) ?_
  refine va_get (D := D) (ci := 5) (v := .ref (h 3)) (C := RX5) (T := TX5) (N := 12) hx hb hts (se_iw iwX5) hown hK hP 0 rfl rfl 3 (by decide) (hts _ (List.mem_cons_of_mem _ qX5_f28)) (fun _ h9 => h9) rfl dX5_make_77 ?_
  refine va_getN (D := D) (ci := 1) (v := .int (g2 3 1)) (C := RX1) (T := TX1) (N := 8) hx hb hts (se_iw iwX1) hown hK hP 3 rfl rfl 1 (by decide) (va_Nw.use rfl (hZ _ nX5_f365 rfl)) (fun _ h9 => h9) rfl dX5_make_80 ?_
  refine lv_if_eq (tgt := 94) hx hb dX5_make_83 (by decide) (fun c5 => ?_) (fun c5 => ?_)
  · exact se_rv hx hb hr hlocks hK hP hD hS dX5_make_94 (by rw [← hF, F_S_make_k1, if_pos c5])
  · refine lv_aload_n hx hb dX5_make_86 rfl (lv_at hl 2 rfl) ?_
    refine va_get (D := D) (ci := 5) (v := .ref (h 6)) (C := RX5) (T := TX5) (N := 12) hx hb hts (se_iw iwX5) hown hK hP 0 rfl rfl 5 (by decide) (hts _ (List.mem_cons_of_mem _ qX5_f42)) (fun _ h9 => h9) rfl dX5_make_87 ?_
    refine lv_iconst (v := 0) hx hb dX5_make_90 (by decide) ?_
    refine va_putN (D := D) (ci := 0) (v := .int 0) (ty := .boolean) (C := RX0) (T := TX0) (N := 9) hx hb hts (se_iw iwX0) tyX0 tyX0_ok nmX0 hown hK hP hD hS 6 rfl rfl 8 (by decide) (va_Nw.use rfl (hZ _ nX5_f206 rfl)) (fun _ h9 => h9) rfl (by decide +kernel) rfl rfl (Nat.le_of_ble_eq_true rfl) dX5_make_91 (fun H locs hP hD hS => ?_)
    replace hP : va_P D se_cl (se_WS k h (se_u g2 6 8 0)) H := hP
    replace hD : va_D A (se_WS k h (se_u g2 6 8 0)) := hD
    exact se_rv hx hb hr hlocks hK hP hD hS dX5_make_94 (by rw [← hF, F_S_make_k1, if_neg c5])
set_option maxRecDepth 100000 in
set_option maxHeartbeats 4000000 in
theorem c_S_Outgoing_wasSent (l : Launch) (D : va_G) (k : Nat → ClassId) (h : Nat → Nat) (sz : Nat) (g : se_G) (p1 : Int32) (p2 : Int32) : Met l yX2_wasSent (se_w_X2_wasSent) ({ frames := 0, cells := 0, slots := 0, locals := 0 }) (va_Pc [.ref (h 1), .int p1, .int p2] (se_Pre D se_cl [(k 2, .byte), (k 4, .int), (k 8, .byte), (k 10, .byte)] (se_WS k h g) se_ZN sz)) (se_Qv D se_cl [(k 2, .byte), (k 4, .int), (k 8, .byte), (k 10, .byte)] (se_WS k h) (F_S_Outgoing_wasSent g p1 p2) (va_A (se_WS k h g) sz)) 0 0 (va_A (se_WS k h g) sz) := by
  refine se_met (Qc := se_Qv D se_cl [(k 2, .byte), (k 4, .int), (k 8, .byte), (k 10, .byte)] (se_WS k h) (F_S_Outgoing_wasSent g p1 p2)) (cc := cX2_wasSent) (maxL := 3) (ret := none) (by decide) rfl (Nat.le_of_ble_eq_true rfl) ?_
  intro p e s m below meth c ls A hx hb hr hts hown hlocks hml hA hP hK hD hS hZ hl
  replace hl : lv_has ls 3 [(0, .ref (h 1)), (1, .int p1), (2, .int p2)] := hl
  have hF : F_S_Outgoing_wasSent g p1 p2 = F_S_Outgoing_wasSent g p1 p2 := rfl
  refine lv_aload_n hx hb dX2_wasSent_0 rfl (lv_at hl 0 rfl) ?_
  refine lv_dup hx hb dX2_wasSent_1 rfl ?_
  refine va_get (D := D) (ci := 2) (v := .int (g 1 3)) (C := RX2) (T := TX2) (N := 13) hx hb hts (se_iw iwX2) hown hK hP 1 rfl rfl 3 (by decide) (hts _ (List.mem_cons_of_mem _ qX2_f25)) (fun _ h9 => h9) rfl dX2_wasSent_2 ?_
  refine lv_iload_n hx hb dX2_wasSent_5 rfl (lv_at hl 1 rfl) ?_
  refine lv_iadd hx hb dX2_wasSent_6 ?_
  refine va_put (D := D) (ci := 2) (v := .int ((g 1 3) + p1)) (ty := .int) (C := RX2) (T := TX2) (N := 13) hx hb hts (se_iw iwX2) tyX2 tyX2_ok nmX2 hown hK hP hD hS 1 rfl rfl 3 (by decide) (hts _ (List.mem_cons_of_mem _ qX2_f25)) (fun _ h9 => h9) rfl (by decide +kernel) rfl rfl (Nat.le_of_ble_eq_true rfl) dX2_wasSent_7 (fun H locs hP hD hS => ?_)
  replace hP : va_P D se_cl (se_WS k h (se_u g 1 3 ((g 1 3) + p1))) H := hP
  replace hD : va_D A (se_WS k h (se_u g 1 3 ((g 1 3) + p1))) := hD
  refine lv_aload_n hx hb dX2_wasSent_10 rfl (lv_at hl 0 rfl) ?_
  refine lv_dup hx hb dX2_wasSent_11 rfl ?_
  refine va_get (D := D) (ci := 2) (v := .int (g 1 6)) (C := RX2) (T := TX2) (N := 13) hx hb hts (se_iw iwX2) hown hK hP 1 rfl rfl 6 (by decide) (hts _ (List.mem_cons_of_mem _ qX2_f34)) (fun _ h9 => h9) rfl dX2_wasSent_12 ?_
  refine lv_iload_n hx hb dX2_wasSent_15 rfl (lv_at hl 1 rfl) ?_
  refine lv_iadd hx hb dX2_wasSent_16 ?_
  refine va_put (D := D) (ci := 2) (v := .int ((g 1 6) + p1)) (ty := .int) (C := RX2) (T := TX2) (N := 13) hx hb hts (se_iw iwX2) tyX2 tyX2_ok nmX2 hown hK hP hD hS 1 rfl rfl 6 (by decide) (hts _ (List.mem_cons_of_mem _ qX2_f34)) (fun _ h9 => h9) rfl (by decide +kernel) rfl rfl (Nat.le_of_ble_eq_true rfl) dX2_wasSent_17 (fun H locs hP hD hS => ?_)
  replace hP : va_P D se_cl (se_WS k h (se_u (se_u g 1 3 ((g 1 3) + p1)) 1 6 ((g 1 6) + p1))) H := hP
  replace hD : va_D A (se_WS k h (se_u (se_u g 1 3 ((g 1 3) + p1)) 1 6 ((g 1 6) + p1))) := hD
  refine lv_iload_n hx hb dX2_wasSent_20 rfl (lv_at hl 2 rfl) ?_
  refine lv_if_eq (tgt := 39) hx hb dX2_wasSent_21 (by decide) (fun c1 => ?_) (fun c1 => ?_)
  · exact se_rv hx hb hr hlocks hK hP hD hS dX2_wasSent_39 (by rw [F_S_Outgoing_wasSent, if_pos c1])
  · refine lv_aload_n hx hb dX2_wasSent_24 rfl (lv_at hl 0 rfl) ?_
    refine lv_iconst (v := 1) hx hb dX2_wasSent_25 (by decide) ?_
    refine va_put (D := D) (ci := 2) (v := .int 1) (ty := .boolean) (C := RX2) (T := TX2) (N := 13) hx hb hts (se_iw iwX2) tyX2 tyX2_ok nmX2 hown hK hP hD hS 1 rfl rfl 8 (by decide) (hts _ (List.mem_cons_of_mem _ qX2_f41)) (fun _ h9 => h9) rfl (by decide +kernel) rfl rfl (Nat.le_of_ble_eq_true rfl) dX2_wasSent_26 (fun H locs hP hD hS => ?_)
    replace hP : va_P D se_cl (se_WS k h (se_u (se_u (se_u g 1 3 ((g 1 3) + p1)) 1 6 ((g 1 6) + p1)) 1 8 1)) H := hP
    replace hD : va_D A (se_WS k h (se_u (se_u (se_u g 1 3 ((g 1 3) + p1)) 1 6 ((g 1 6) + p1)) 1 8 1)) := hD
    refine lv_aload_n hx hb dX2_wasSent_29 rfl (lv_at hl 0 rfl) ?_
    refine lv_dup hx hb dX2_wasSent_30 rfl ?_
    refine va_get (D := D) (ci := 2) (v := .int ((g 1 6) + p1)) (C := RX2) (T := TX2) (N := 13) hx hb hts (se_iw iwX2) hown hK hP 1 rfl rfl 6 (by decide) (hts _ (List.mem_cons_of_mem _ qX2_f34)) (fun _ h9 => h9) rfl dX2_wasSent_31 ?_
    refine lv_iconst (v := 1) hx hb dX2_wasSent_34 (by decide) ?_
    refine lv_iadd hx hb dX2_wasSent_35 ?_
    refine va_put (D := D) (ci := 2) (v := .int (((g 1 6) + p1) + 1)) (ty := .int) (C := RX2) (T := TX2) (N := 13) hx hb hts (se_iw iwX2) tyX2 tyX2_ok nmX2 hown hK hP hD hS 1 rfl rfl 6 (by decide) (hts _ (List.mem_cons_of_mem _ qX2_f34)) (fun _ h9 => h9) rfl (by decide +kernel) rfl rfl (Nat.le_of_ble_eq_true rfl) dX2_wasSent_36 (fun H locs hP hD hS => ?_)
    replace hP : va_P D se_cl (se_WS k h (se_u (se_u (se_u (se_u g 1 3 ((g 1 3) + p1)) 1 6 ((g 1 6) + p1)) 1 8 1) 1 6 (((g 1 6) + p1) + 1))) H := hP
    replace hD : va_D A (se_WS k h (se_u (se_u (se_u (se_u g 1 3 ((g 1 3) + p1)) 1 6 ((g 1 6) + p1)) 1 8 1) 1 6 (((g 1 6) + p1) + 1))) := hD
    exact se_rv hx hb hr hlocks hK hP hD hS dX2_wasSent_39 (by rw [F_S_Outgoing_wasSent, if_neg c1])
set_option maxRecDepth 100000 in
set_option maxHeartbeats 4000000 in
theorem c_S_Watch_measure (l : Launch) (D : va_G) (k : Nat → ClassId) (h : Nat → Nat) (sz : Nat) (g : se_G) (p1 : Int32) : Met l yX4_measure (se_w_X4_measure) ({ frames := 0, cells := 0, slots := 0, locals := 0 }) (va_Pc [.ref (h 5), .int p1] (se_Pre D se_cl [(k 2, .byte), (k 4, .int), (k 8, .byte), (k 10, .byte)] (se_WS k h g) se_ZN sz)) (se_Qv D se_cl [(k 2, .byte), (k 4, .int), (k 8, .byte), (k 10, .byte)] (se_WS k h) (F_S_Watch_measure g p1) (va_A (se_WS k h g) sz)) 0 0 (va_A (se_WS k h g) sz) := by
  refine se_met (Qc := se_Qv D se_cl [(k 2, .byte), (k 4, .int), (k 8, .byte), (k 10, .byte)] (se_WS k h) (F_S_Watch_measure g p1)) (cc := cX4_measure) (maxL := 2) (ret := none) (by decide) rfl (Nat.le_of_ble_eq_true rfl) ?_
  intro p e s m below meth c ls A hx hb hr hts hown hlocks hml hA hP hK hD hS hZ hl
  replace hl : lv_has ls 2 [(0, .ref (h 5)), (1, .int p1)] := hl
  have hF : F_S_Watch_measure g p1 = F_S_Watch_measure g p1 := rfl
  refine lv_aload_n hx hb dX4_measure_0 rfl (lv_at hl 0 rfl) ?_
  refine va_get (D := D) (ci := 4) (v := .int (g 5 8)) (C := RX4) (T := TX4) (N := 11) hx hb hts (se_iw iwX4) hown hK hP 5 rfl rfl 8 (by decide) (hts _ (List.mem_cons_of_mem _ qX4_f32)) (fun _ h9 => h9) rfl dX4_measure_1 ?_
  refine lv_if_ne (tgt := 25) hx hb dX4_measure_4 (by decide) (fun c1 => ?_) (fun c1 => ?_)
  · exact se_rv hx hb hr hlocks hK hP hD hS dX4_measure_25 (by rw [F_S_Watch_measure, if_neg c1])
  · refine lv_aload_n hx hb dX4_measure_7 rfl (lv_at hl 0 rfl) ?_
    refine lv_iconst (v := 1) hx hb dX4_measure_8 (by decide) ?_
    refine va_put (D := D) (ci := 4) (v := .int 1) (ty := .boolean) (C := RX4) (T := TX4) (N := 11) hx hb hts (se_iw iwX4) tyX4 tyX4_ok nmX4 hown hK hP hD hS 5 rfl rfl 8 (by decide) (hts _ (List.mem_cons_of_mem _ qX4_f32)) (fun _ h9 => h9) rfl (by decide +kernel) rfl rfl (Nat.le_of_ble_eq_true rfl) dX4_measure_9 (fun H locs hP hD hS => ?_)
    replace hP : va_P D se_cl (se_WS k h (se_u g 5 8 1)) H := hP
    replace hD : va_D A (se_WS k h (se_u g 5 8 1)) := hD
    refine lv_aload_n hx hb dX4_measure_12 rfl (lv_at hl 0 rfl) ?_
    refine lv_iload_n hx hb dX4_measure_13 rfl (lv_at hl 1 rfl) ?_
    refine va_put (D := D) (ci := 4) (v := .int p1) (ty := .int) (C := RX4) (T := TX4) (N := 11) hx hb hts (se_iw iwX4) tyX4 tyX4_ok nmX4 hown hK hP hD hS 5 rfl rfl 9 (by decide) (hts _ (List.mem_cons_of_mem _ qX4_f35)) (fun _ h9 => h9) rfl (by decide +kernel) rfl rfl (Nat.le_of_ble_eq_true rfl) dX4_measure_14 (fun H locs hP hD hS => ?_)
    replace hP : va_P D se_cl (se_WS k h (se_u (se_u g 5 8 1) 5 9 p1)) H := hP
    replace hD : va_D A (se_WS k h (se_u (se_u g 5 8 1) 5 9 p1)) := hD
    refine lv_aload_n hx hb dX4_measure_17 rfl (lv_at hl 0 rfl) ?_
    refine lv_aload_n hx hb dX4_measure_18 rfl (lv_at hl 0 rfl) ?_
    refine va_get (D := D) (ci := 4) (v := .int (g 5 0)) (C := RX4) (T := TX4) (N := 11) hx hb hts (se_iw iwX4) hown hK hP 5 rfl rfl 0 (by decide) (hts _ (List.mem_cons_of_mem _ qX4_f41)) (fun _ h9 => h9) rfl dX4_measure_19 ?_
    refine va_put (D := D) (ci := 4) (v := .int (g 5 0)) (ty := .int) (C := RX4) (T := TX4) (N := 11) hx hb hts (se_iw iwX4) tyX4 tyX4_ok nmX4 hown hK hP hD hS 5 rfl rfl 10 (by decide) (hts _ (List.mem_cons_of_mem _ qX4_f38)) (fun _ h9 => h9) rfl (by decide +kernel) rfl rfl (Nat.le_of_ble_eq_true rfl) dX4_measure_22 (fun H locs hP hD hS => ?_)
    replace hP : va_P D se_cl (se_WS k h (se_u (se_u (se_u g 5 8 1) 5 9 p1) 5 10 (g 5 0))) H := hP
    replace hD : va_D A (se_WS k h (se_u (se_u (se_u g 5 8 1) 5 9 p1) 5 10 (g 5 0))) := hD
    exact se_rv hx hb hr hlocks hK hP hD hS dX4_measure_25 (by rw [F_S_Watch_measure, if_pos c1])
set_option maxRecDepth 100000 in
set_option maxHeartbeats 4000000 in
theorem c_S_Watch_setAlarmIfOff (l : Launch) (D : va_G) (k : Nat → ClassId) (h : Nat → Nat) (sz : Nat) (g : se_G)  : Met l yX4_setAlarmIfOff (se_w_X4_setAlarmIfOff) ({ frames := 1, cells := 0, slots := 0, locals := 20 }) (va_Pc [.ref (h 5)] (se_Pre D se_cl [(k 2, .byte), (k 4, .int), (k 8, .byte), (k 10, .byte)] (se_WS k h g) se_ZN sz)) (se_Qv D se_cl [(k 2, .byte), (k 4, .int), (k 8, .byte), (k 10, .byte)] (se_WS k h) (F_S_Watch_setAlarmIfOff g) (va_A (se_WS k h g) sz)) 0 0 (va_A (se_WS k h g) sz) := by
  refine se_met (Qc := se_Qv D se_cl [(k 2, .byte), (k 4, .int), (k 8, .byte), (k 10, .byte)] (se_WS k h) (F_S_Watch_setAlarmIfOff g)) (cc := cX4_setAlarmIfOff) (maxL := 1) (ret := none) (by decide) rfl (Nat.le_of_ble_eq_true rfl) ?_
  intro p e s m below meth c ls A hx hb hr hts hown hlocks hml hA hP hK hD hS hZ hl
  replace hl : lv_has ls 1 [(0, .ref (h 5))] := hl
  have hF : F_S_Watch_setAlarmIfOff g = F_S_Watch_setAlarmIfOff g := rfl
  refine lv_aload_n hx hb dX4_setAlarmIfOff_0 rfl (lv_at hl 0 rfl) ?_
  refine va_get (D := D) (ci := 4) (v := .int (g 5 1)) (C := RX4) (T := TX4) (N := 11) hx hb hts (se_iw iwX4) hown hK hP 5 rfl rfl 1 (by decide) (hts _ (List.mem_cons_of_mem _ qX4_f13)) (fun _ h9 => h9) rfl dX4_setAlarmIfOff_1 ?_
  refine lv_if_ne (tgt := 11) hx hb dX4_setAlarmIfOff_4 (by decide) (fun c1 => ?_) (fun c1 => ?_)
  · exact se_rv hx hb hr hlocks hK hP hD hS dX4_setAlarmIfOff_11 (by rw [F_S_Watch_setAlarmIfOff, if_neg c1])
  · refine lv_aload_n hx hb dX4_setAlarmIfOff_7 rfl (lv_at hl 0 rfl) ?_
    refine se_cvE (va_runV (C := RX4) (As := []) (rest := []) ⟨hx, hb, hml, hown, hts⟩ (c_S_Watch_setAlarm l D k h _ g) (se_kV 0 hts q_code_X4_setAlarm qX4_m44 q_ini_StreamEnd_Watch q_instanceMethod_X4_setAlarm q_sel_X4_setAlarm (by decide +kernel) ⟨Nat.le_of_ble_eq_true rfl, Nat.le_of_ble_eq_true rfl⟩ rfl rfl) ⟨se_blind se_ZN_ok, va_recv hK hP (ci := 4) (q0 := 5) rfl rfl, se_pre se_ZN_ok hP hK hD hZ⟩ rfl rfl hl.1 rfl (lv_room (Nat.le_of_ble_eq_true rfl)) dX4_setAlarmIfOff_8 ⟨Nat.zero_le _, Nat.zero_le _⟩) hD hS hA (fun g1 H locs eg1 hP hD hS => ?_)
    exact se_rv hx hb hr hlocks hK hP hD hS dX4_setAlarmIfOff_11 (by subst eg1; rw [F_S_Watch_setAlarmIfOff, if_pos c1])
set_option maxRecDepth 100000 in
set_option maxHeartbeats 4000000 in
theorem c_S_makeNew (l : Launch) (D : va_G) (k : Nat → ClassId) (h : Nat → Nat) (sz : Nat) (g : se_G) (p1 : Int32) (p2 : Int32) : Met l yX5_makeNew (se_w_X5_makeNew) ({ frames := 3, cells := 0, slots := 0, locals := 71 }) (va_Pc [.ref (h 0), .int p1, .int p2] (se_Pre D se_cl [(k 2, .byte), (k 4, .int), (k 8, .byte), (k 10, .byte)] (se_WS k h g) se_ZN sz)) (se_Qv D se_cl [(k 2, .byte), (k 4, .int), (k 8, .byte), (k 10, .byte)] (se_WS k h) (F_S_makeNew g p1 p2) (va_A (se_WS k h g) sz)) 0 0 (va_A (se_WS k h g) sz) := by
  refine se_met (Qc := se_Qv D se_cl [(k 2, .byte), (k 4, .int), (k 8, .byte), (k 10, .byte)] (se_WS k h) (F_S_makeNew g p1 p2)) (cc := cX5_makeNew) (maxL := 3) (ret := none) (by decide) rfl (Nat.le_of_ble_eq_true rfl) ?_
  intro p e s m below meth c ls A hx hb hr hts hown hlocks hml hA hP hK hD hS hZ hl
  replace hl : lv_has ls 3 [(0, .ref (h 0)), (1, .int p1), (2, .int p2)] := hl
  have hF : F_S_makeNew g p1 p2 = F_S_makeNew g p1 p2 := rfl
  refine lv_aload_n hx hb dX5_makeNew_0 rfl (lv_at hl 0 rfl) ?_
  refine va_get (D := D) (ci := 5) (v := .ref (h 6)) (C := RX5) (T := TX5) (N := 12) hx hb hts (se_iw iwX5) hown hK hP 0 rfl rfl 5 (by decide) (hts _ (List.mem_cons_of_mem _ qX5_f42)) (fun _ h9 => h9) rfl dX5_makeNew_1 ?_
  refine lv_iconst (v := 0) hx hb dX5_makeNew_4 (by decide) ?_
  refine va_putN (D := D) (ci := 0) (v := .int 0) (ty := .boolean) (C := RX0) (T := TX0) (N := 9) hx hb hts (se_iw iwX0) tyX0 tyX0_ok nmX0 hown hK hP hD hS 6 rfl rfl 7 (by decide) (va_Nw.use rfl (hZ _ nX5_f200 rfl)) (fun _ h9 => h9) rfl (by decide +kernel) rfl rfl (Nat.le_of_ble_eq_true rfl) dX5_makeNew_5 (fun H locs hP hD hS => ?_)
  replace hP : va_P D se_cl (se_WS k h (se_u g 6 7 0)) H := hP
  replace hD : va_D A (se_WS k h (se_u g 6 7 0)) := hD
  refine lv_aload_n hx hb dX5_makeNew_8 rfl (lv_at hl 0 rfl) ?_
  refine lv_iload_n hx hb dX5_makeNew_9 rfl (lv_at hl 2 rfl) ?_
  refine se_join (v := ((if p2 = 0 then 0 else 2) : Int32)) (pcJ := 18) (restJ := [.ref (h 0)]) (ls := ls) (fun T => ?_) ?_
  · refine lv_if_eq (tgt := 17) hx hb dX5_makeNew_10 (by decide) (fun c2 => ?_) (fun c2 => ?_)
    · refine lv_iconst (v := 0) hx hb dX5_makeNew_17 (by decide) ?_
      exact T _ (by rw [if_pos c2])
    · refine lv_iconst (v := 2) hx hb dX5_makeNew_13 (by decide) ?_
      refine lv_goto (tgt := 18) hx hb dX5_makeNew_14 (by decide) ?_
      exact T _ (by rw [if_neg c2])
  refine lv_aload_n hx hb dX5_makeNew_18 rfl (lv_at hl 0 rfl) ?_
  refine va_get (D := D) (ci := 5) (v := .ref (h 1)) (C := RX5) (T := TX5) (N := 12) hx hb hts (se_iw iwX5) hown hK hP 0 rfl rfl 2 (by decide) (hts _ (List.mem_cons_of_mem _ qX5_f21)) (fun _ h9 => h9) rfl dX5_makeNew_19 ?_
  refine va_getN (D := D) (ci := 2) (v := .int (g 1 6)) (C := RX2) (T := TX2) (N := 13) hx hb hts (se_iw iwX2) hown hK hP 1 rfl rfl 6 (by decide) (va_Nw.use rfl (hZ _ nX5_f137 rfl)) (fun _ h9 => h9) rfl dX5_makeNew_22 ?_
  refine lv_aload_n hx hb dX5_makeNew_25 rfl (lv_at hl 0 rfl) ?_
  refine va_get (D := D) (ci := 5) (v := .ref (h 1)) (C := RX5) (T := TX5) (N := 12) hx hb hts (se_iw iwX5) hown hK hP 0 rfl rfl 2 (by decide) (hts _ (List.mem_cons_of_mem _ qX5_f21)) (fun _ h9 => h9) rfl dX5_makeNew_26 ?_
  refine va_getN (D := D) (ci := 2) (v := .int (g 1 3)) (C := RX2) (T := TX2) (N := 13) hx hb hts (se_iw iwX2) hown hK hP 1 rfl rfl 3 (by decide) (va_Nw.use rfl (hZ _ nX5_f353 rfl)) (fun _ h9 => h9) rfl dX5_makeNew_29 ?_
  refine lv_iload_n hx hb dX5_makeNew_32 rfl (lv_at hl 1 rfl) ?_
  refine se_cvE (va_runV (C := RX5) (As := [.int ((if p2 = 0 then 0 else 2) : Int32), .int (g 1 6), .int (g 1 3), .int p1]) (rest := []) ⟨hx, hb, hml, hown, hts⟩ (c_S_make l D k h _ (se_u g 6 7 0) ((if p2 = 0 then 0 else 2) : Int32) (g 1 6) (g 1 3) p1) (se_kV 4 hts q_code_X5_make qX5_m209 q_ini_StreamEnd q_instanceMethod_X5_make q_sel_X5_make (by decide +kernel) ⟨Nat.le_of_ble_eq_true rfl, Nat.le_of_ble_eq_true rfl⟩ rfl rfl) ⟨se_blind se_ZN_ok, va_recv hK hP (ci := 5) (q0 := 0) rfl rfl, se_pre se_ZN_ok hP hK hD hZ⟩ rfl rfl hl.1 rfl (lv_room (Nat.le_of_ble_eq_true rfl)) dX5_makeNew_33 ⟨Nat.zero_le _, Nat.zero_le _⟩) hD hS hA (fun g1 H locs eg1 hP hD hS => ?_)
  refine lv_aload_n hx hb dX5_makeNew_36 rfl (lv_at hl 0 rfl) ?_
  refine va_get (D := D) (ci := 5) (v := .ref (h 1)) (C := RX5) (T := TX5) (N := 12) hx hb hts (se_iw iwX5) hown hK hP 0 rfl rfl 2 (by decide) (hts _ (List.mem_cons_of_mem _ qX5_f21)) (fun _ h9 => h9) rfl dX5_makeNew_37 ?_
  refine lv_iload_n hx hb dX5_makeNew_40 rfl (lv_at hl 1 rfl) ?_
  refine lv_iload_n hx hb dX5_makeNew_41 rfl (lv_at hl 2 rfl) ?_
  refine se_cvE (va_runVN (C := RX2) (As := [.int p1, .int p2]) (rest := []) ⟨hx, hb, hml, hown, hts⟩ (c_S_Outgoing_wasSent l D k h _ g1 p1 p2) (se_kVN 2 hts q_code_X2_wasSent (hZ _ nX5_m362 rfl) q_ini_StreamEnd_Outgoing q_instanceMethod_X2_wasSent q_sel_X2_wasSent (by decide +kernel) ⟨Nat.le_of_ble_eq_true rfl, Nat.le_of_ble_eq_true rfl⟩ rfl rfl) ⟨se_blind se_ZN_ok, va_recv hK hP (ci := 2) (q0 := 1) rfl rfl, se_pre se_ZN_ok hP hK hD hZ⟩ rfl rfl hl.1 rfl (lv_room (Nat.le_of_ble_eq_true rfl)) dX5_makeNew_42 ⟨Nat.zero_le _, Nat.zero_le _⟩) hD hS hA (fun g2 H locs eg2 hP hD hS => ?_)
  replace hF : (F_S_makeNew_k1 (F_S_Outgoing_wasSent g1 p1 p2)) = F_S_makeNew g p1 p2 := by subst eg1; rw [F_S_makeNew]
  rw [← eg2] at hF
  replace hF : F_S_makeNew_k1 g2 = F_S_makeNew g p1 p2 := hF
  refine lv_aload_n hx hb dX5_makeNew_45 rfl (lv_at hl 0 rfl) ?_
  refine va_get (D := D) (ci := 5) (v := .ref (h 5)) (C := RX5) (T := TX5) (N := 12) hx hb hts (se_iw iwX5) hown hK hP 0 rfl rfl 4 (by decide) (hts _ (List.mem_cons_of_mem _ qX5_f35)) (fun _ h9 => h9) rfl dX5_makeNew_46 ?_
  refine lv_aload_n hx hb dX5_makeNew_49 rfl (lv_at hl 0 rfl) ?_
  refine va_get (D := D) (ci := 5) (v := .ref (h 1)) (C := RX5) (T := TX5) (N := 12) hx hb hts (se_iw iwX5) hown hK hP 0 rfl rfl 2 (by decide) (hts _ (List.mem_cons_of_mem _ qX5_f21)) (fun _ h9 => h9) rfl dX5_makeNew_50 ?_
  refine va_getN (D := D) (ci := 2) (v := .int (g2 1 6)) (C := RX2) (T := TX2) (N := 13) hx hb hts (se_iw iwX2) hown hK hP 1 rfl rfl 6 (by decide) (va_Nw.use rfl (hZ _ nX5_f137 rfl)) (fun _ h9 => h9) rfl dX5_makeNew_53 ?_
  refine se_cvE (va_runVN (C := RX4) (As := [.int (g2 1 6)]) (rest := []) ⟨hx, hb, hml, hown, hts⟩ (c_S_Watch_measure l D k h _ g2 (g2 1 6)) (se_kVN 1 hts q_code_X4_measure (hZ _ nX5_m347 rfl) q_ini_StreamEnd_Watch q_instanceMethod_X4_measure q_sel_X4_measure (by decide +kernel) ⟨Nat.le_of_ble_eq_true rfl, Nat.le_of_ble_eq_true rfl⟩ rfl rfl) ⟨se_blind se_ZN_ok, va_recv hK hP (ci := 4) (q0 := 5) rfl rfl, se_pre se_ZN_ok hP hK hD hZ⟩ rfl rfl hl.1 rfl (lv_room (Nat.le_of_ble_eq_true rfl)) dX5_makeNew_56 ⟨Nat.zero_le _, Nat.zero_le _⟩) hD hS hA (fun g3 H locs eg3 hP hD hS => ?_)
  refine lv_aload_n hx hb dX5_makeNew_59 rfl (lv_at hl 0 rfl) ?_
  refine va_get (D := D) (ci := 5) (v := .ref (h 5)) (C := RX5) (T := TX5) (N := 12) hx hb hts (se_iw iwX5) hown hK hP 0 rfl rfl 4 (by decide) (hts _ (List.mem_cons_of_mem _ qX5_f35)) (fun _ h9 => h9) rfl dX5_makeNew_60 ?_
  refine se_cvE (va_runVN (C := RX4) (As := []) (rest := []) ⟨hx, hb, hml, hown, hts⟩ (c_S_Watch_setAlarmIfOff l D k h _ g3) (se_kVN 0 hts q_code_X4_setAlarmIfOff (hZ _ nX5_m350 rfl) q_ini_StreamEnd_Watch q_instanceMethod_X4_setAlarmIfOff q_sel_X4_setAlarmIfOff (by decide +kernel) ⟨Nat.le_of_ble_eq_true rfl, Nat.le_of_ble_eq_true rfl⟩ rfl rfl) ⟨se_blind se_ZN_ok, va_recv hK hP (ci := 4) (q0 := 5) rfl rfl, se_pre se_ZN_ok hP hK hD hZ⟩ rfl rfl hl.1 rfl (lv_room (Nat.le_of_ble_eq_true rfl)) dX5_makeNew_63 ⟨Nat.zero_le _, Nat.zero_le _⟩) hD hS hA (fun g4 H locs eg4 hP hD hS => ?_)
  exact se_rv hx hb hr hlocks hK hP hD hS dX5_makeNew_66 (by subst eg3; subst eg4; rw [← hF, F_S_makeNew_k1])
set_option maxRecDepth 100000 in
set_option maxHeartbeats 4000000 in
theorem c_S_makeProbe (l : Launch) (D : va_G) (k : Nat → ClassId) (h : Nat → Nat) (sz : Nat) (g : se_G)  : Met l yX5_makeProbe (se_w_X5_makeProbe) ({ frames := 4, cells := 0, slots := 0, locals := 93 }) (va_Pc [.ref (h 0)] (se_Pre D se_cl [(k 2, .byte), (k 4, .int), (k 8, .byte), (k 10, .byte)] (se_WS k h g) se_ZN sz)) (se_Qv D se_cl [(k 2, .byte), (k 4, .int), (k 8, .byte), (k 10, .byte)] (se_WS k h) (F_S_makeProbe g) (va_A (se_WS k h g) sz)) 0 0 (va_A (se_WS k h g) sz) := by
  refine se_met (Qc := se_Qv D se_cl [(k 2, .byte), (k 4, .int), (k 8, .byte), (k 10, .byte)] (se_WS k h) (F_S_makeProbe g)) (cc := cX5_makeProbe) (maxL := 2) (ret := none) (by decide) rfl (Nat.le_of_ble_eq_true rfl) ?_
  intro p e s m below meth c ls A hx hb hr hts hown hlocks hml hA hP hK hD hS hZ hl
  replace hl : lv_has ls 2 [(0, .ref (h 0))] := hl
  have hF : F_S_makeProbe g = F_S_makeProbe g := rfl
  refine lv_aload_n hx hb dX5_makeProbe_0 rfl (lv_at hl 0 rfl) ?_
  refine va_get (D := D) (ci := 5) (v := .ref (h 1)) (C := RX5) (T := TX5) (N := 12) hx hb hts (se_iw iwX5) hown hK hP 0 rfl rfl 2 (by decide) (hts _ (List.mem_cons_of_mem _ qX5_f21)) (fun _ h9 => h9) rfl dX5_makeProbe_1 ?_
  refine se_cp (va_runVN (C := RX2) (As := []) (rest := []) ⟨hx, hb, hml, hown, hts⟩ (c_S_Outgoing_unsent l D k h _ g) (se_kVN 0 hts q_code_X2_unsent (hZ _ nX5_m359 rfl) q_ini_StreamEnd_Outgoing q_instanceMethod_X2_unsent q_sel_X2_unsent (by decide +kernel) ⟨Nat.le_of_ble_eq_true rfl, Nat.le_of_ble_eq_true rfl⟩ rfl rfl) ⟨se_blind se_ZN_ok, va_recv hK hP (ci := 2) (q0 := 1) rfl rfl, se_pre se_ZN_ok hP hK hD hZ⟩ rfl rfl hl.1 rfl (lv_room (Nat.le_of_ble_eq_true rfl)) dX5_makeProbe_4 ⟨Nat.zero_le _, Nat.zero_le _⟩) hD hS hA (fun H locs hP hD hS => ?_)
  refine se_join (v := ((if (F_S_Outgoing_unsent g) = 0 then 1 else 0) : Int32)) (pcJ := 15) (restJ := []) (ls := ls) (fun T => ?_) ?_
  · refine lv_if_ne (tgt := 14) hx hb dX5_makeProbe_7 (by decide) (fun c2 => ?_) (fun c2 => ?_)
    · refine lv_iconst (v := 0) hx hb dX5_makeProbe_14 (by decide) ?_
      exact T _ (by rw [if_neg c2])
    · refine lv_iconst (v := 1) hx hb dX5_makeProbe_10 (by decide) ?_
      refine lv_goto (tgt := 15) hx hb dX5_makeProbe_11 (by decide) ?_
      exact T _ (by rw [if_pos c2])
  refine lv_istore_n (lv' := [(1, .int ((if (F_S_Outgoing_unsent g) = 0 then 1 else 0) : Int32)), (0, .ref (h 0))]) hx hb dX5_makeProbe_15 rfl hl (by decide) rfl (fun ls hl => ?_)
  refine lv_aload_n hx hb dX5_makeProbe_16 rfl (lv_at hl 1 rfl) ?_
  refine lv_iload_n hx hb dX5_makeProbe_17 rfl (lv_at hl 0 rfl) ?_
  refine se_join (v := ((if ((if (F_S_Outgoing_unsent g) = 0 then 1 else 0) : Int32) = 0 then 1 else 0) : Int32)) (pcJ := 26) (restJ := [.ref (h 0)]) (ls := ls) (fun T => ?_) ?_
  · refine lv_if_eq (tgt := 25) hx hb dX5_makeProbe_18 (by decide) (fun c4 => ?_) (fun c4 => ?_)
    · refine lv_iconst (v := 1) hx hb dX5_makeProbe_25 (by decide) ?_
      exact T _ (by rw [if_pos c4])
    · refine lv_iconst (v := 0) hx hb dX5_makeProbe_21 (by decide) ?_
      refine lv_goto (tgt := 26) hx hb dX5_makeProbe_22 (by decide) ?_
      exact T _ (by rw [if_neg c4])
  refine lv_iload_n hx hb dX5_makeProbe_26 rfl (lv_at hl 0 rfl) ?_
  refine se_cvE (va_runV (C := RX5) (As := [.int ((if ((if (F_S_Outgoing_unsent g) = 0 then 1 else 0) : Int32) = 0 then 1 else 0) : Int32), .int ((if (F_S_Outgoing_unsent g) = 0 then 1 else 0) : Int32)]) (rest := []) ⟨hx, hb, hml, hown, hts⟩ (c_S_makeNew l D k h _ g ((if ((if (F_S_Outgoing_unsent g) = 0 then 1 else 0) : Int32) = 0 then 1 else 0) : Int32) ((if (F_S_Outgoing_unsent g) = 0 then 1 else 0) : Int32)) (se_kV 2 hts q_code_X5_makeNew qX5_m197 q_ini_StreamEnd q_instanceMethod_X5_makeNew q_sel_X5_makeNew (by decide +kernel) ⟨Nat.le_of_ble_eq_true rfl, Nat.le_of_ble_eq_true rfl⟩ rfl rfl) ⟨se_blind se_ZN_ok, va_recv hK hP (ci := 5) (q0 := 0) rfl rfl, se_pre se_ZN_ok hP hK hD hZ⟩ rfl rfl hl.1 rfl (lv_room (Nat.le_of_ble_eq_true rfl)) dX5_makeProbe_27 ⟨Nat.zero_le _, Nat.zero_le _⟩) hD hS hA (fun g1 H locs eg1 hP hD hS => ?_)
  exact se_rv hx hb hr hlocks hK hP hD hS dX5_makeProbe_30 (by subst eg1; rw [F_S_makeProbe])
set_option maxRecDepth 100000 in
set_option maxHeartbeats 4000000 in
theorem c_S_Outgoing_allowed (l : Launch) (D : va_G) (k : Nat → ClassId) (h : Nat → Nat) (sz : Nat) (g : se_G)  : Met l yX2_allowed (se_w_X2_allowed) ({ frames := 0, cells := 0, slots := 0, locals := 0 }) (va_Pc [.ref (h 1)] (se_Pre D se_cl [(k 2, .byte), (k 4, .int), (k 8, .byte), (k 10, .byte)] (se_WS k h g) se_ZN sz)) (se_Qp D se_cl [(k 2, .byte), (k 4, .int), (k 8, .byte), (k 10, .byte)] (se_WS k h) (F_S_Outgoing_allowed g) g (va_A (se_WS k h g) sz)) 0 0 (va_A (se_WS k h g) sz) := by
  refine se_met (Qc := se_Qp D se_cl [(k 2, .byte), (k 4, .int), (k 8, .byte), (k 10, .byte)] (se_WS k h) (F_S_Outgoing_allowed g) g) (cc := cX2_allowed) (maxL := 1) (ret := (some .int)) (by decide) rfl (Nat.le_of_ble_eq_true rfl) ?_
  intro p e s m below meth c ls A hx hb hr hts hown hlocks hml hA hP hK hD hS hZ hl
  replace hl : lv_has ls 1 [(0, .ref (h 1))] := hl
  have hF : F_S_Outgoing_allowed g = F_S_Outgoing_allowed g := rfl
  refine lv_aload_n hx hb dX2_allowed_0 rfl (lv_at hl 0 rfl) ?_
  refine va_get (D := D) (ci := 2) (v := .int (g 1 10)) (C := RX2) (T := TX2) (N := 13) hx hb hts (se_iw iwX2) hown hK hP 1 rfl rfl 10 (by decide) (hts _ (List.mem_cons_of_mem _ qX2_f56)) (fun _ h9 => h9) rfl dX2_allowed_1 ?_
  refine lv_aload_n hx hb dX2_allowed_4 rfl (lv_at hl 0 rfl) ?_
  refine va_get (D := D) (ci := 2) (v := .int (g 1 6)) (C := RX2) (T := TX2) (N := 13) hx hb hts (se_iw iwX2) hown hK hP 1 rfl rfl 6 (by decide) (hts _ (List.mem_cons_of_mem _ qX2_f34)) (fun _ h9 => h9) rfl dX2_allowed_5 ?_
  refine lv_aload_n hx hb dX2_allowed_8 rfl (lv_at hl 0 rfl) ?_
  refine va_get (D := D) (ci := 2) (v := .int (g 1 5)) (C := RX2) (T := TX2) (N := 13) hx hb hts (se_iw iwX2) hown hK hP 1 rfl rfl 5 (by decide) (hts _ (List.mem_cons_of_mem _ qX2_f31)) (fun _ h9 => h9) rfl dX2_allowed_9 ?_
  refine lv_isub hx hb dX2_allowed_12 ?_
  refine lv_isub hx hb dX2_allowed_13 ?_
  exact se_rp hx hb hr  hlocks hK hP hD hS dX2_allowed_14 (by rw [F_S_Outgoing_allowed])
set_option maxRecDepth 100000 in
set_option maxHeartbeats 4000000 in
theorem c_S_Outgoing_newBytes (l : Launch) (D : va_G) (k : Nat → ClassId) (h : Nat → Nat) (sz : Nat) (g : se_G)  : Met l yX2_newBytes (se_w_X2_newBytes) ({ frames := 1, cells := 0, slots := 0, locals := 21 }) (va_Pc [.ref (h 1)] (se_Pre D se_cl [(k 2, .byte), (k 4, .int), (k 8, .byte), (k 10, .byte)] (se_WS k h g) se_ZN sz)) (se_Qp D se_cl [(k 2, .byte), (k 4, .int), (k 8, .byte), (k 10, .byte)] (se_WS k h) (F_S_Outgoing_newBytes g) g (va_A (se_WS k h g) sz)) 0 0 (va_A (se_WS k h g) sz) := by
  refine se_met (Qc := se_Qp D se_cl [(k 2, .byte), (k 4, .int), (k 8, .byte), (k 10, .byte)] (se_WS k h) (F_S_Outgoing_newBytes g) g) (cc := cX2_newBytes) (maxL := 1) (ret := (some .int)) (by decide) rfl (Nat.le_of_ble_eq_true rfl) ?_
  intro p e s m below meth c ls A hx hb hr hts hown hlocks hml hA hP hK hD hS hZ hl
  replace hl : lv_has ls 1 [(0, .ref (h 1))] := hl
  have hF : F_S_Outgoing_newBytes g = F_S_Outgoing_newBytes g := rfl
  refine lv_iconst (v := 0) hx hb dX2_newBytes_0 (by decide) ?_
  refine lv_aload_n hx hb dX2_newBytes_1 rfl (lv_at hl 0 rfl) ?_
  refine se_cp (va_runV (C := RX2) (As := []) (rest := [.int 0]) ⟨hx, hb, hml, hown, hts⟩ (c_S_Outgoing_unsent l D k h _ g) (se_kV 0 hts q_code_X2_unsent qX2_m48 q_ini_StreamEnd_Outgoing q_instanceMethod_X2_unsent q_sel_X2_unsent (by decide +kernel) ⟨Nat.le_of_ble_eq_true rfl, Nat.le_of_ble_eq_true rfl⟩ rfl rfl) ⟨se_blind se_ZN_ok, va_recv hK hP (ci := 2) (q0 := 1) rfl rfl, se_pre se_ZN_ok hP hK hD hZ⟩ rfl rfl hl.1 rfl (lv_room (Nat.le_of_ble_eq_true rfl)) dX2_newBytes_2 ⟨Nat.zero_le _, Nat.zero_le _⟩) hD hS hA (fun H locs hP hD hS => ?_)
  refine lv_aload_n hx hb dX2_newBytes_5 rfl (lv_at hl 0 rfl) ?_
  refine va_get (D := D) (ci := 2) (v := .int (g 1 9)) (C := RX2) (T := TX2) (N := 13) hx hb hts (se_iw iwX2) hown hK hP 1 rfl rfl 9 (by decide) (hts _ (List.mem_cons_of_mem _ qX2_f15)) (fun _ h9 => h9) rfl dX2_newBytes_6 ?_
  refine lv_aload_n hx hb dX2_newBytes_9 rfl (lv_at hl 0 rfl) ?_
  refine se_cp (va_runV (C := RX2) (As := []) (rest := [.int (g 1 9), .int (F_S_Outgoing_unsent g), .int 0]) ⟨hx, hb, hml, hown, hts⟩ (c_S_Outgoing_allowed l D k h _ g) (se_kV 0 hts q_code_X2_allowed qX2_m59 q_ini_StreamEnd_Outgoing q_instanceMethod_X2_allowed q_sel_X2_allowed (by decide +kernel) ⟨Nat.le_of_ble_eq_true rfl, Nat.le_of_ble_eq_true rfl⟩ rfl rfl) ⟨se_blind se_ZN_ok, va_recv hK hP (ci := 2) (q0 := 1) rfl rfl, se_pre se_ZN_ok hP hK hD hZ⟩ rfl rfl hl.1 rfl (lv_room (Nat.le_of_ble_eq_true rfl)) dX2_newBytes_10 ⟨Nat.zero_le _, Nat.zero_le _⟩) hD hS hA (fun H locs hP hD hS => ?_)
  refine va_mmin hx hb (hml.trans hl.1.symm) hown (hts _ (List.mem_cons_of_mem _ qX2_m62)) (hts _ (List.mem_cons_of_mem _ q_static_Math_min)) (hts _ (List.mem_cons_of_mem _ q_ini_java_lang_Math)) (hts _ (List.mem_cons_of_mem _ q_code_Math_min)) (Nat.le_of_ble_eq_true rfl) (Nat.le_of_ble_eq_true rfl) (Nat.zero_le _) (Nat.zero_le _) dX2_newBytes_13 ?_
  refine va_mmin hx hb (hml.trans hl.1.symm) hown (hts _ (List.mem_cons_of_mem _ qX2_m62)) (hts _ (List.mem_cons_of_mem _ q_static_Math_min)) (hts _ (List.mem_cons_of_mem _ q_ini_java_lang_Math)) (hts _ (List.mem_cons_of_mem _ q_code_Math_min)) (Nat.le_of_ble_eq_true rfl) (Nat.le_of_ble_eq_true rfl) (Nat.zero_le _) (Nat.zero_le _) dX2_newBytes_16 ?_
  refine va_mmax hx hb (hml.trans hl.1.symm) hown (hts _ (List.mem_cons_of_mem _ qX2_m68)) (hts _ (List.mem_cons_of_mem _ q_static_Math_max)) (hts _ (List.mem_cons_of_mem _ q_ini_java_lang_Math)) (hts _ (List.mem_cons_of_mem _ q_code_Math_max)) (Nat.le_of_ble_eq_true rfl) (Nat.le_of_ble_eq_true rfl) (Nat.zero_le _) (Nat.zero_le _) dX2_newBytes_19 ?_
  exact se_rp hx hb hr  hlocks hK hP hD hS dX2_newBytes_22 (by rw [F_S_Outgoing_newBytes])
set_option maxRecDepth 100000 in
set_option maxHeartbeats 4000000 in
theorem c_S_Outgoing_newHasLast (l : Launch) (D : va_G) (k : Nat → ClassId) (h : Nat → Nat) (sz : Nat) (g : se_G)  : Met l yX2_newHasLast (se_w_X2_newHasLast) ({ frames := 2, cells := 0, slots := 0, locals := 41 }) (va_Pc [.ref (h 1)] (se_Pre D se_cl [(k 2, .byte), (k 4, .int), (k 8, .byte), (k 10, .byte)] (se_WS k h g) se_ZN sz)) (se_Qp D se_cl [(k 2, .byte), (k 4, .int), (k 8, .byte), (k 10, .byte)] (se_WS k h) (F_S_Outgoing_newHasLast g) g (va_A (se_WS k h g) sz)) 0 0 (va_A (se_WS k h g) sz) := by
  refine se_met (Qc := se_Qp D se_cl [(k 2, .byte), (k 4, .int), (k 8, .byte), (k 10, .byte)] (se_WS k h) (F_S_Outgoing_newHasLast g) g) (cc := cX2_newHasLast) (maxL := 2) (ret := (some .boolean)) (by decide) rfl (Nat.le_of_ble_eq_true rfl) ?_
  intro p e s m below meth c ls A hx hb hr hts hown hlocks hml hA hP hK hD hS hZ hl
  replace hl : lv_has ls 2 [(0, .ref (h 1))] := hl
  have hF : F_S_Outgoing_newHasLast g = F_S_Outgoing_newHasLast g := rfl
  refine lv_aload_n hx hb dX2_newHasLast_0 rfl (lv_at hl 0 rfl) ?_
  refine se_cp (va_runV (C := RX2) (As := []) (rest := []) ⟨hx, hb, hml, hown, hts⟩ (c_S_Outgoing_newBytes l D k h _ g) (se_kV 0 hts q_code_X2_newBytes qX2_m71 q_ini_StreamEnd_Outgoing q_instanceMethod_X2_newBytes q_sel_X2_newBytes (by decide +kernel) ⟨Nat.le_of_ble_eq_true rfl, Nat.le_of_ble_eq_true rfl⟩ rfl rfl) ⟨se_blind se_ZN_ok, va_recv hK hP (ci := 2) (q0 := 1) rfl rfl, se_pre se_ZN_ok hP hK hD hZ⟩ rfl rfl hl.1 rfl (lv_room (Nat.le_of_ble_eq_true rfl)) dX2_newHasLast_1 ⟨Nat.zero_le _, Nat.zero_le _⟩) hD hS hA (fun H locs hP hD hS => ?_)
  refine lv_istore_n (lv' := [(1, .int (F_S_Outgoing_newBytes g)), (0, .ref (h 1))]) hx hb dX2_newHasLast_4 rfl hl (by decide) rfl (fun ls hl => ?_)
  refine lv_aload_n hx hb dX2_newHasLast_5 rfl (lv_at hl 1 rfl) ?_
  refine va_get (D := D) (ci := 2) (v := .int (g 1 7)) (C := RX2) (T := TX2) (N := 13) hx hb hts (se_iw iwX2) hown hK hP 1 rfl rfl 7 (by decide) (hts _ (List.mem_cons_of_mem _ qX2_f37)) (fun _ h9 => h9) rfl dX2_newHasLast_6 ?_
  refine lv_if_eq (tgt := 39) hx hb dX2_newHasLast_9 (by decide) (fun c1 => ?_) (fun c1 => ?_)
  · refine lv_iconst (v := 0) hx hb dX2_newHasLast_39 (by decide) ?_
    exact se_rpz hx hb hr rfl hlocks hK hP hD hS dX2_newHasLast_40 (by rw [F_S_Outgoing_newHasLast, if_pos c1])
  · refine lv_aload_n hx hb dX2_newHasLast_12 rfl (lv_at hl 1 rfl) ?_
    refine va_get (D := D) (ci := 2) (v := .int (g 1 8)) (C := RX2) (T := TX2) (N := 13) hx hb hts (se_iw iwX2) hown hK hP 1 rfl rfl 8 (by decide) (hts _ (List.mem_cons_of_mem _ qX2_f41)) (fun _ h9 => h9) rfl dX2_newHasLast_13 ?_
    refine lv_if_ne (tgt := 39) hx hb dX2_newHasLast_16 (by decide) (fun c2 => ?_) (fun c2 => ?_)
    · refine lv_iconst (v := 0) hx hb dX2_newHasLast_39 (by decide) ?_
      exact se_rpz hx hb hr rfl hlocks hK hP hD hS dX2_newHasLast_40 (by rw [F_S_Outgoing_newHasLast, if_neg c1, if_neg c2])
    · refine lv_iload_n hx hb dX2_newHasLast_19 rfl (lv_at hl 0 rfl) ?_
      refine lv_aload_n hx hb dX2_newHasLast_20 rfl (lv_at hl 1 rfl) ?_
      refine se_cp (va_runV (C := RX2) (As := []) (rest := [.int (F_S_Outgoing_newBytes g)]) ⟨hx, hb, hml, hown, hts⟩ (c_S_Outgoing_unsent l D k h _ g) (se_kV 0 hts q_code_X2_unsent qX2_m48 q_ini_StreamEnd_Outgoing q_instanceMethod_X2_unsent q_sel_X2_unsent (by decide +kernel) ⟨Nat.le_of_ble_eq_true rfl, Nat.le_of_ble_eq_true rfl⟩ rfl rfl) ⟨se_blind se_ZN_ok, va_recv hK hP (ci := 2) (q0 := 1) rfl rfl, se_pre se_ZN_ok hP hK hD hZ⟩ rfl rfl hl.1 rfl (lv_room (Nat.le_of_ble_eq_true rfl)) dX2_newHasLast_21 ⟨Nat.zero_le _, Nat.zero_le _⟩) hD hS hA (fun H locs hP hD hS => ?_)
      refine lv_icmp_ne (tgt := 39) hx hb dX2_newHasLast_24 (by decide) (fun c3 => ?_) (fun c3 => ?_)
      · refine lv_iconst (v := 0) hx hb dX2_newHasLast_39 (by decide) ?_
        exact se_rpz hx hb hr rfl hlocks hK hP hD hS dX2_newHasLast_40 (by rw [F_S_Outgoing_newHasLast, if_neg c1, if_pos c2, if_neg c3])
      · refine lv_iload_n hx hb dX2_newHasLast_27 rfl (lv_at hl 0 rfl) ?_
        refine lv_aload_n hx hb dX2_newHasLast_28 rfl (lv_at hl 1 rfl) ?_
        refine se_cp (va_runV (C := RX2) (As := []) (rest := [.int (F_S_Outgoing_newBytes g)]) ⟨hx, hb, hml, hown, hts⟩ (c_S_Outgoing_allowed l D k h _ g) (se_kV 0 hts q_code_X2_allowed qX2_m59 q_ini_StreamEnd_Outgoing q_instanceMethod_X2_allowed q_sel_X2_allowed (by decide +kernel) ⟨Nat.le_of_ble_eq_true rfl, Nat.le_of_ble_eq_true rfl⟩ rfl rfl) ⟨se_blind se_ZN_ok, va_recv hK hP (ci := 2) (q0 := 1) rfl rfl, se_pre se_ZN_ok hP hK hD hZ⟩ rfl rfl hl.1 rfl (lv_room (Nat.le_of_ble_eq_true rfl)) dX2_newHasLast_29 ⟨Nat.zero_le _, Nat.zero_le _⟩) hD hS hA (fun H locs hP hD hS => ?_)
        refine lv_icmp_ge (tgt := 39) hx hb dX2_newHasLast_32 (by decide) (fun c4 => ?_) (fun c4 => ?_)
        · refine lv_iconst (v := 0) hx hb dX2_newHasLast_39 (by decide) ?_
          exact se_rpz hx hb hr rfl hlocks hK hP hD hS dX2_newHasLast_40 (by rw [F_S_Outgoing_newHasLast, if_neg c1, if_pos c2, if_pos c3, if_pos c4])
        · refine lv_iconst (v := 1) hx hb dX2_newHasLast_35 (by decide) ?_
          refine lv_goto (tgt := 40) hx hb dX2_newHasLast_36 (by decide) ?_
          exact se_rpz hx hb hr rfl hlocks hK hP hD hS dX2_newHasLast_40 (by rw [F_S_Outgoing_newHasLast, if_neg c1, if_pos c2, if_pos c3, if_neg c4])
set_option maxRecDepth 100000 in
set_option maxHeartbeats 4000000 in
theorem c_S_Outgoing_maySend (l : Launch) (D : va_G) (k : Nat → ClassId) (h : Nat → Nat) (sz : Nat) (g : se_G)  : Met l yX2_maySend (se_w_X2_maySend) ({ frames := 3, cells := 0, slots := 0, locals := 62 }) (va_Pc [.ref (h 1)] (se_Pre D se_cl [(k 2, .byte), (k 4, .int), (k 8, .byte), (k 10, .byte)] (se_WS k h g) se_ZN sz)) (se_Qp D se_cl [(k 2, .byte), (k 4, .int), (k 8, .byte), (k 10, .byte)] (se_WS k h) (F_S_Outgoing_maySend g) g (va_A (se_WS k h g) sz)) 0 0 (va_A (se_WS k h g) sz) := by
  refine se_met (Qc := se_Qp D se_cl [(k 2, .byte), (k 4, .int), (k 8, .byte), (k 10, .byte)] (se_WS k h) (F_S_Outgoing_maySend g) g) (cc := cX2_maySend) (maxL := 1) (ret := (some .boolean)) (by decide) rfl (Nat.le_of_ble_eq_true rfl) ?_
  intro p e s m below meth c ls A hx hb hr hts hown hlocks hml hA hP hK hD hS hZ hl
  replace hl : lv_has ls 1 [(0, .ref (h 1))] := hl
  have hF : F_S_Outgoing_maySend g = F_S_Outgoing_maySend g := rfl
  refine lv_aload_n hx hb dX2_maySend_0 rfl (lv_at hl 0 rfl) ?_
  refine se_cp (va_runV (C := RX2) (As := []) (rest := []) ⟨hx, hb, hml, hown, hts⟩ (c_S_Outgoing_newBytes l D k h _ g) (se_kV 0 hts q_code_X2_newBytes qX2_m71 q_ini_StreamEnd_Outgoing q_instanceMethod_X2_newBytes q_sel_X2_newBytes (by decide +kernel) ⟨Nat.le_of_ble_eq_true rfl, Nat.le_of_ble_eq_true rfl⟩ rfl rfl) ⟨se_blind se_ZN_ok, va_recv hK hP (ci := 2) (q0 := 1) rfl rfl, se_pre se_ZN_ok hP hK hD hZ⟩ rfl rfl hl.1 rfl (lv_room (Nat.le_of_ble_eq_true rfl)) dX2_maySend_1 ⟨Nat.zero_le _, Nat.zero_le _⟩) hD hS hA (fun H locs hP hD hS => ?_)
  refine lv_if_gt (tgt := 14) hx hb dX2_maySend_4 (by decide) (fun c1 => ?_) (fun c1 => ?_)
  · refine lv_iconst (v := 1) hx hb dX2_maySend_14 (by decide) ?_
    refine lv_goto (tgt := 19) hx hb dX2_maySend_15 (by decide) ?_
    exact se_rpz hx hb hr rfl hlocks hK hP hD hS dX2_maySend_19 (by rw [F_S_Outgoing_maySend, if_pos c1])
  · refine lv_aload_n hx hb dX2_maySend_7 rfl (lv_at hl 0 rfl) ?_
    refine se_cp (va_runV (C := RX2) (As := []) (rest := []) ⟨hx, hb, hml, hown, hts⟩ (c_S_Outgoing_newHasLast l D k h _ g) (se_kV 0 hts q_code_X2_newHasLast qX2_m74 q_ini_StreamEnd_Outgoing q_instanceMethod_X2_newHasLast q_sel_X2_newHasLast (by decide +kernel) ⟨Nat.le_of_ble_eq_true rfl, Nat.le_of_ble_eq_true rfl⟩ rfl rfl) ⟨se_blind se_ZN_ok, va_recv hK hP (ci := 2) (q0 := 1) rfl rfl, se_pre se_ZN_ok hP hK hD hZ⟩ rfl rfl hl.1 rfl (lv_room (Nat.le_of_ble_eq_true rfl)) dX2_maySend_8 ⟨Nat.zero_le _, Nat.zero_le _⟩) hD hS hA (fun H locs hP hD hS => ?_)
    refine lv_if_eq (tgt := 18) hx hb dX2_maySend_11 (by decide) (fun c2 => ?_) (fun c2 => ?_)
    · refine lv_iconst (v := 0) hx hb dX2_maySend_18 (by decide) ?_
      exact se_rpz hx hb hr rfl hlocks hK hP hD hS dX2_maySend_19 (by rw [F_S_Outgoing_maySend, if_neg c1, if_pos c2])
    · refine lv_iconst (v := 1) hx hb dX2_maySend_14 (by decide) ?_
      refine lv_goto (tgt := 19) hx hb dX2_maySend_15 (by decide) ?_
      exact se_rpz hx hb hr rfl hlocks hK hP hD hS dX2_maySend_19 (by rw [F_S_Outgoing_maySend, if_neg c1, if_neg c2])
set_option maxRecDepth 100000 in
set_option maxHeartbeats 4000000 in
theorem c_S_makeAgain (l : Launch) (D : va_G) (k : Nat → ClassId) (h : Nat → Nat) (sz : Nat) (g : se_G)  : Met l yX5_makeAgain (se_w_X5_makeAgain) ({ frames := 3, cells := 0, slots := 0, locals := 71 }) (va_Pc [.ref (h 0)] (se_Pre D se_cl [(k 2, .byte), (k 4, .int), (k 8, .byte), (k 10, .byte)] (se_WS k h g) se_ZN sz)) (se_Qv D se_cl [(k 2, .byte), (k 4, .int), (k 8, .byte), (k 10, .byte)] (se_WS k h) (F_S_makeAgain g) (va_A (se_WS k h g) sz)) 0 0 (va_A (se_WS k h g) sz) := by
  refine se_met (Qc := se_Qv D se_cl [(k 2, .byte), (k 4, .int), (k 8, .byte), (k 10, .byte)] (se_WS k h) (F_S_makeAgain g)) (cc := cX5_makeAgain) (maxL := 3) (ret := none) (by decide) rfl (Nat.le_of_ble_eq_true rfl) ?_
  intro p e s m below meth c ls A hx hb hr hts hown hlocks hml hA hP hK hD hS hZ hl
  replace hl : lv_has ls 3 [(0, .ref (h 0))] := hl
  have hF : F_S_makeAgain g = F_S_makeAgain g := rfl
  refine lv_aload_n hx hb dX5_makeAgain_0 rfl (lv_at hl 0 rfl) ?_
  refine va_get (D := D) (ci := 5) (v := .ref (h 6)) (C := RX5) (T := TX5) (N := 12) hx hb hts (se_iw iwX5) hown hK hP 0 rfl rfl 5 (by decide) (hts _ (List.mem_cons_of_mem _ qX5_f42)) (fun _ h9 => h9) rfl dX5_makeAgain_1 ?_
  refine lv_iconst (v := 0) hx hb dX5_makeAgain_4 (by decide) ?_
  refine va_putN (D := D) (ci := 0) (v := .int 0) (ty := .boolean) (C := RX0) (T := TX0) (N := 9) hx hb hts (se_iw iwX0) tyX0 tyX0_ok nmX0 hown hK hP hD hS 6 rfl rfl 6 (by decide) (va_Nw.use rfl (hZ _ nX5_f179 rfl)) (fun _ h9 => h9) rfl (by decide +kernel) rfl rfl (Nat.le_of_ble_eq_true rfl) dX5_makeAgain_5 (fun H locs hP hD hS => ?_)
  replace hP : va_P D se_cl (se_WS k h (se_u g 6 6 0)) H := hP
  replace hD : va_D A (se_WS k h (se_u g 6 6 0)) := hD
  refine lv_aload_n hx hb dX5_makeAgain_8 rfl (lv_at hl 0 rfl) ?_
  refine va_get (D := D) (ci := 5) (v := .ref (h 1)) (C := RX5) (T := TX5) (N := 12) hx hb hts (se_iw iwX5) hown hK hP 0 rfl rfl 2 (by decide) (hts _ (List.mem_cons_of_mem _ qX5_f21)) (fun _ h9 => h9) rfl dX5_makeAgain_9 ?_
  refine va_getN (D := D) (ci := 2) (v := .int (g 1 3)) (C := RX2) (T := TX2) (N := 13) hx hb hts (se_iw iwX2) hown hK hP 1 rfl rfl 3 (by decide) (va_Nw.use rfl (hZ _ nX5_f353 rfl)) (fun _ h9 => h9) rfl dX5_makeAgain_12 ?_
  refine lv_aload_n hx hb dX5_makeAgain_15 rfl (lv_at hl 0 rfl) ?_
  refine va_get (D := D) (ci := 5) (v := .ref (h 1)) (C := RX5) (T := TX5) (N := 12) hx hb hts (se_iw iwX5) hown hK hP 0 rfl rfl 2 (by decide) (hts _ (List.mem_cons_of_mem _ qX5_f21)) (fun _ h9 => h9) rfl dX5_makeAgain_16 ?_
  refine va_getN (D := D) (ci := 2) (v := .int (g 1 9)) (C := RX2) (T := TX2) (N := 13) hx hb hts (se_iw iwX2) hown hK hP 1 rfl rfl 9 (by decide) (va_Nw.use rfl (hZ _ nX5_f273 rfl)) (fun _ h9 => h9) rfl dX5_makeAgain_19 ?_
  refine va_mmin hx hb (hml.trans hl.1.symm) hown (hts _ (List.mem_cons_of_mem _ qX5_m102)) (hts _ (List.mem_cons_of_mem _ q_static_Math_min)) (hts _ (List.mem_cons_of_mem _ q_ini_java_lang_Math)) (hts _ (List.mem_cons_of_mem _ q_code_Math_min)) (Nat.le_of_ble_eq_true rfl) (Nat.le_of_ble_eq_true rfl) (Nat.zero_le _) (Nat.zero_le _) dX5_makeAgain_22 ?_
  refine lv_istore_n (lv' := [(1, .int (if (g 1 9) < (g 1 3) then (g 1 9) else (g 1 3))), (0, .ref (h 0))]) hx hb dX5_makeAgain_25 rfl hl (by decide) rfl (fun ls hl => ?_)
  refine lv_aload_n hx hb dX5_makeAgain_26 rfl (lv_at hl 1 rfl) ?_
  refine va_get (D := D) (ci := 5) (v := .ref (h 1)) (C := RX5) (T := TX5) (N := 12) hx hb hts (se_iw iwX5) hown hK hP 0 rfl rfl 2 (by decide) (hts _ (List.mem_cons_of_mem _ qX5_f21)) (fun _ h9 => h9) rfl dX5_makeAgain_27 ?_
  refine va_getN (D := D) (ci := 2) (v := .int (g 1 8)) (C := RX2) (T := TX2) (N := 13) hx hb hts (se_iw iwX2) hown hK hP 1 rfl rfl 8 (by decide) (va_Nw.use rfl (hZ _ nX5_f356 rfl)) (fun _ h9 => h9) rfl dX5_makeAgain_30 ?_
  refine se_join (v := ((if (g 1 8) = 0 then 0 else ((if (if (g 1 9) < (g 1 3) then (g 1 9) else (g 1 3)) = (g 1 3) then 1 else 0) : Int32)) : Int32)) (pcJ := 52) (restJ := []) (ls := ls) (fun T => ?_) ?_
  · refine lv_if_eq (tgt := 51) hx hb dX5_makeAgain_33 (by decide) (fun c2 => ?_) (fun c2 => ?_)
    · refine lv_iconst (v := 0) hx hb dX5_makeAgain_51 (by decide) ?_
      exact T _ (by rw [if_pos c2])
    · refine lv_iload_n hx hb dX5_makeAgain_36 rfl (lv_at hl 0 rfl) ?_
      refine lv_aload_n hx hb dX5_makeAgain_37 rfl (lv_at hl 1 rfl) ?_
      refine va_get (D := D) (ci := 5) (v := .ref (h 1)) (C := RX5) (T := TX5) (N := 12) hx hb hts (se_iw iwX5) hown hK hP 0 rfl rfl 2 (by decide) (hts _ (List.mem_cons_of_mem _ qX5_f21)) (fun _ h9 => h9) rfl dX5_makeAgain_38 ?_
      refine va_getN (D := D) (ci := 2) (v := .int (g 1 3)) (C := RX2) (T := TX2) (N := 13) hx hb hts (se_iw iwX2) hown hK hP 1 rfl rfl 3 (by decide) (va_Nw.use rfl (hZ _ nX5_f353 rfl)) (fun _ h9 => h9) rfl dX5_makeAgain_41 ?_
      refine lv_icmp_ne (tgt := 51) hx hb dX5_makeAgain_44 (by decide) (fun c3 => ?_) (fun c3 => ?_)
      · refine lv_iconst (v := 0) hx hb dX5_makeAgain_51 (by decide) ?_
        exact T _ (by rw [if_neg c2, if_neg c3])
      · refine lv_iconst (v := 1) hx hb dX5_makeAgain_47 (by decide) ?_
        refine lv_goto (tgt := 52) hx hb dX5_makeAgain_48 (by decide) ?_
        exact T _ (by rw [if_neg c2, if_pos c3])
  refine lv_istore_n (lv' := [(2, .int ((if (g 1 8) = 0 then 0 else ((if (if (g 1 9) < (g 1 3) then (g 1 9) else (g 1 3)) = (g 1 3) then 1 else 0) : Int32)) : Int32)), (1, .int (if (g 1 9) < (g 1 3) then (g 1 9) else (g 1 3))), (0, .ref (h 0))]) hx hb dX5_makeAgain_52 rfl hl (by decide) rfl (fun ls hl => ?_)
  refine lv_aload_n hx hb dX5_makeAgain_53 rfl (lv_at hl 2 rfl) ?_
  refine lv_iload_n hx hb dX5_makeAgain_54 rfl (lv_at hl 0 rfl) ?_
  refine se_join (v := ((if ((if (g 1 8) = 0 then 0 else ((if (if (g 1 9) < (g 1 3) then (g 1 9) else (g 1 3)) = (g 1 3) then 1 else 0) : Int32)) : Int32) = 0 then 0 else 2) : Int32)) (pcJ := 63) (restJ := [.ref (h 0)]) (ls := ls) (fun T => ?_) ?_
  · refine lv_if_eq (tgt := 62) hx hb dX5_makeAgain_55 (by decide) (fun c5 => ?_) (fun c5 => ?_)
    · refine lv_iconst (v := 0) hx hb dX5_makeAgain_62 (by decide) ?_
      exact T _ (by rw [if_pos c5])
    · refine lv_iconst (v := 2) hx hb dX5_makeAgain_58 (by decide) ?_
      refine lv_goto (tgt := 63) hx hb dX5_makeAgain_59 (by decide) ?_
      exact T _ (by rw [if_neg c5])
  refine lv_aload_n hx hb dX5_makeAgain_63 rfl (lv_at hl 2 rfl) ?_
  refine va_get (D := D) (ci := 5) (v := .ref (h 1)) (C := RX5) (T := TX5) (N := 12) hx hb hts (se_iw iwX5) hown hK hP 0 rfl rfl 2 (by decide) (hts _ (List.mem_cons_of_mem _ qX5_f21)) (fun _ h9 => h9) rfl dX5_makeAgain_64 ?_
  refine va_getN (D := D) (ci := 2) (v := .int (g 1 5)) (C := RX2) (T := TX2) (N := 13) hx hb hts (se_iw iwX2) hown hK hP 1 rfl rfl 5 (by decide) (va_Nw.use rfl (hZ _ nX5_f259 rfl)) (fun _ h9 => h9) rfl dX5_makeAgain_67 ?_
  refine lv_iconst (v := 0) hx hb dX5_makeAgain_70 (by decide) ?_
  refine lv_iload_n hx hb dX5_makeAgain_71 rfl (lv_at hl 1 rfl) ?_
  refine se_cvE (va_runV (C := RX5) (As := [.int ((if ((if (g 1 8) = 0 then 0 else ((if (if (g 1 9) < (g 1 3) then (g 1 9) else (g 1 3)) = (g 1 3) then 1 else 0) : Int32)) : Int32) = 0 then 0 else 2) : Int32), .int (g 1 5), .int 0, .int (if (g 1 9) < (g 1 3) then (g 1 9) else (g 1 3))]) (rest := []) ⟨hx, hb, hml, hown, hts⟩ (c_S_make l D k h _ (se_u g 6 6 0) ((if ((if (g 1 8) = 0 then 0 else ((if (if (g 1 9) < (g 1 3) then (g 1 9) else (g 1 3)) = (g 1 3) then 1 else 0) : Int32)) : Int32) = 0 then 0 else 2) : Int32) (g 1 5) 0 (if (g 1 9) < (g 1 3) then (g 1 9) else (g 1 3))) (se_kV 4 hts q_code_X5_make qX5_m209 q_ini_StreamEnd q_instanceMethod_X5_make q_sel_X5_make (by decide +kernel) ⟨Nat.le_of_ble_eq_true rfl, Nat.le_of_ble_eq_true rfl⟩ rfl rfl) ⟨se_blind se_ZN_ok, va_recv hK hP (ci := 5) (q0 := 0) rfl rfl, se_pre se_ZN_ok hP hK hD hZ⟩ rfl rfl hl.1 rfl (lv_room (Nat.le_of_ble_eq_true rfl)) dX5_makeAgain_72 ⟨Nat.zero_le _, Nat.zero_le _⟩) hD hS hA (fun g1 H locs eg1 hP hD hS => ?_)
  refine lv_aload_n hx hb dX5_makeAgain_75 rfl (lv_at hl 2 rfl) ?_
  refine va_get (D := D) (ci := 5) (v := .ref (h 5)) (C := RX5) (T := TX5) (N := 12) hx hb hts (se_iw iwX5) hown hK hP 0 rfl rfl 4 (by decide) (hts _ (List.mem_cons_of_mem _ qX5_f35)) (fun _ h9 => h9) rfl dX5_makeAgain_76 ?_
  refine lv_iconst (v := 0) hx hb dX5_makeAgain_79 (by decide) ?_
  refine va_putN (D := D) (ci := 4) (v := .int 0) (ty := .boolean) (C := RX4) (T := TX4) (N := 11) hx hb hts (se_iw iwX4) tyX4 tyX4_ok nmX4 hown hK hP hD hS 5 rfl rfl 8 (by decide) (va_Nw.use rfl (hZ _ nX5_f344 rfl)) (fun _ h9 => h9) rfl (by decide +kernel) rfl rfl (Nat.le_of_ble_eq_true rfl) dX5_makeAgain_80 (fun H locs hP hD hS => ?_)
  replace hP : va_P D se_cl (se_WS k h (se_u g1 5 8 0)) H := hP
  replace hD : va_D A (se_WS k h (se_u g1 5 8 0)) := hD
  exact se_rv hx hb hr hlocks hK hP hD hS dX5_makeAgain_83 (by subst eg1; rw [F_S_makeAgain])
end
section
/-! written by program (wip/gen) -/
set_option maxRecDepth 100000 in
set_option maxHeartbeats 4000000 in
theorem c_S_makeOpen (l : Launch) (D : va_G) (k : Nat → ClassId) (h : Nat → Nat) (sz : Nat) (g : se_G)  : Met l yX5_makeOpen (se_w_X5_makeOpen) ({ frames := 3, cells := 0, slots := 0, locals := 71 }) (va_Pc [.ref (h 0)] (se_Pre D se_cl [(k 2, .byte), (k 4, .int), (k 8, .byte), (k 10, .byte)] (se_WS k h g) se_ZN sz)) (se_Qv D se_cl [(k 2, .byte), (k 4, .int), (k 8, .byte), (k 10, .byte)] (se_WS k h) (F_S_makeOpen g) (va_A (se_WS k h g) sz)) 0 0 (va_A (se_WS k h g) sz) := by
  refine se_met (Qc := se_Qv D se_cl [(k 2, .byte), (k 4, .int), (k 8, .byte), (k 10, .byte)] (se_WS k h) (F_S_makeOpen g)) (cc := cX5_makeOpen) (maxL := 1) (ret := none) (by decide) rfl (Nat.le_of_ble_eq_true rfl) ?_
  intro p e s m below meth c ls A hx hb hr hts hown hlocks hml hA hP hK hD hS hZ hl
  replace hl : lv_has ls 1 [(0, .ref (h 0))] := hl
  have hF : F_S_makeOpen g = F_S_makeOpen g := rfl
  refine lv_aload_n hx hb dX5_makeOpen_0 rfl (lv_at hl 0 rfl) ?_
  refine va_get (D := D) (ci := 5) (v := .ref (h 6)) (C := RX5) (T := TX5) (N := 12) hx hb hts (se_iw iwX5) hown hK hP 0 rfl rfl 5 (by decide) (hts _ (List.mem_cons_of_mem _ qX5_f42)) (fun _ h9 => h9) rfl dX5_makeOpen_1 ?_
  refine lv_iconst (v := 0) hx hb dX5_makeOpen_4 (by decide) ?_
  refine va_putN (D := D) (ci := 0) (v := .int 0) (ty := .boolean) (C := RX0) (T := TX0) (N := 9) hx hb hts (se_iw iwX0) tyX0 tyX0_ok nmX0 hown hK hP hD hS 6 rfl rfl 4 (by decide) (va_Nw.use rfl (hZ _ nX5_f173 rfl)) (fun _ h9 => h9) rfl (by decide +kernel) rfl rfl (Nat.le_of_ble_eq_true rfl) dX5_makeOpen_5 (fun H locs hP hD hS => ?_)
  replace hP : va_P D se_cl (se_WS k h (se_u g 6 4 0)) H := hP
  replace hD : va_D A (se_WS k h (se_u g 6 4 0)) := hD
  refine lv_aload_n hx hb dX5_makeOpen_8 rfl (lv_at hl 0 rfl) ?_
  refine lv_iconst (v := 1) hx hb dX5_makeOpen_9 (by decide) ?_
  refine lv_aload_n hx hb dX5_makeOpen_10 rfl (lv_at hl 0 rfl) ?_
  refine va_get (D := D) (ci := 5) (v := .ref (h 1)) (C := RX5) (T := TX5) (N := 12) hx hb hts (se_iw iwX5) hown hK hP 0 rfl rfl 2 (by decide) (hts _ (List.mem_cons_of_mem _ qX5_f21)) (fun _ h9 => h9) rfl dX5_makeOpen_11 ?_
  refine va_getN (D := D) (ci := 2) (v := .int (g 1 4)) (C := RX2) (T := TX2) (N := 13) hx hb hts (se_iw iwX2) hown hK hP 1 rfl rfl 4 (by decide) (va_Nw.use rfl (hZ _ nX5_f296 rfl)) (fun _ h9 => h9) rfl dX5_makeOpen_14 ?_
  refine lv_iconst (v := 0) hx hb dX5_makeOpen_17 (by decide) ?_
  refine lv_iconst (v := 0) hx hb dX5_makeOpen_18 (by decide) ?_
  refine se_cvE (va_runV (C := RX5) (As := [.int 1, .int (g 1 4), .int 0, .int 0]) (rest := []) ⟨hx, hb, hml, hown, hts⟩ (c_S_make l D k h _ (se_u g 6 4 0) 1 (g 1 4) 0 0) (se_kV 4 hts q_code_X5_make qX5_m209 q_ini_StreamEnd q_instanceMethod_X5_make q_sel_X5_make (by decide +kernel) ⟨Nat.le_of_ble_eq_true rfl, Nat.le_of_ble_eq_true rfl⟩ rfl rfl) ⟨se_blind se_ZN_ok, va_recv hK hP (ci := 5) (q0 := 0) rfl rfl, se_pre se_ZN_ok hP hK hD hZ⟩ rfl rfl hl.1 rfl (lv_room (Nat.le_of_ble_eq_true rfl)) dX5_makeOpen_19 ⟨Nat.zero_le _, Nat.zero_le _⟩) hD hS hA (fun g1 H locs eg1 hP hD hS => ?_)
  replace hF : (F_S_makeOpen_k1 (F_S_make (se_u g 6 4 0) 1 (g 1 4) 0 0)) = F_S_makeOpen g := by rw [F_S_makeOpen]
  rw [← eg1] at hF
  replace hF : F_S_makeOpen_k1 g1 = F_S_makeOpen g := hF
  refine lv_aload_n hx hb dX5_makeOpen_22 rfl (lv_at hl 0 rfl) ?_
  refine va_get (D := D) (ci := 5) (v := .ref (h 6)) (C := RX5) (T := TX5) (N := 12) hx hb hts (se_iw iwX5) hown hK hP 0 rfl rfl 5 (by decide) (hts _ (List.mem_cons_of_mem _ qX5_f42)) (fun _ h9 => h9) rfl dX5_makeOpen_23 ?_
  refine va_getN (D := D) (ci := 0) (v := .int (g1 6 5)) (C := RX0) (T := TX0) (N := 9) hx hb hts (se_iw iwX0) hown hK hP 6 rfl rfl 5 (by decide) (va_Nw.use rfl (hZ _ nX5_f341 rfl)) (fun _ h9 => h9) rfl dX5_makeOpen_26 ?_
  refine lv_if_eq (tgt := 43) hx hb dX5_makeOpen_29 (by decide) (fun c1 => ?_) (fun c1 => ?_)
  · refine lv_aload_n hx hb dX5_makeOpen_43 rfl (lv_at hl 0 rfl) ?_
    refine va_get (D := D) (ci := 5) (v := .ref (h 6)) (C := RX5) (T := TX5) (N := 12) hx hb hts (se_iw iwX5) hown hK hP 0 rfl rfl 5 (by decide) (hts _ (List.mem_cons_of_mem _ qX5_f42)) (fun _ h9 => h9) rfl dX5_makeOpen_44 ?_
    refine lv_iconst (v := 1) hx hb dX5_makeOpen_47 (by decide) ?_
    refine va_putN (D := D) (ci := 0) (v := .int 1) (ty := .boolean) (C := RX0) (T := TX0) (N := 9) hx hb hts (se_iw iwX0) tyX0 tyX0_ok nmX0 hown hK hP hD hS 6 rfl rfl 5 (by decide) (va_Nw.use rfl (hZ _ nX5_f341 rfl)) (fun _ h9 => h9) rfl (by decide +kernel) rfl rfl (Nat.le_of_ble_eq_true rfl) dX5_makeOpen_48 (fun H locs hP hD hS => ?_)
    replace hP : va_P D se_cl (se_WS k h (se_u g1 6 5 1)) H := hP
    replace hD : va_D A (se_WS k h (se_u g1 6 5 1)) := hD
    refine lv_aload_n hx hb dX5_makeOpen_51 rfl (lv_at hl 0 rfl) ?_
    refine va_get (D := D) (ci := 5) (v := .ref (h 5)) (C := RX5) (T := TX5) (N := 12) hx hb hts (se_iw iwX5) hown hK hP 0 rfl rfl 4 (by decide) (hts _ (List.mem_cons_of_mem _ qX5_f35)) (fun _ h9 => h9) rfl dX5_makeOpen_52 ?_
    refine lv_aload_n hx hb dX5_makeOpen_55 rfl (lv_at hl 0 rfl) ?_
    refine va_get (D := D) (ci := 5) (v := .ref (h 1)) (C := RX5) (T := TX5) (N := 12) hx hb hts (se_iw iwX5) hown hK hP 0 rfl rfl 2 (by decide) (hts _ (List.mem_cons_of_mem _ qX5_f21)) (fun _ h9 => h9) rfl dX5_makeOpen_56 ?_
    refine va_getN (D := D) (ci := 2) (v := .int (g1 1 6)) (C := RX2) (T := TX2) (N := 13) hx hb hts (se_iw iwX2) hown hK hP 1 rfl rfl 6 (by decide) (va_Nw.use rfl (hZ _ nX5_f137 rfl)) (fun _ h9 => h9) rfl dX5_makeOpen_59 ?_
    refine se_cvE (va_runVN (C := RX4) (As := [.int (g1 1 6)]) (rest := []) ⟨hx, hb, hml, hown, hts⟩ (c_S_Watch_measure l D k h _ (se_u g1 6 5 1) (g1 1 6)) (se_kVN 1 hts q_code_X4_measure (hZ _ nX5_m347 rfl) q_ini_StreamEnd_Watch q_instanceMethod_X4_measure q_sel_X4_measure (by decide +kernel) ⟨Nat.le_of_ble_eq_true rfl, Nat.le_of_ble_eq_true rfl⟩ rfl rfl) ⟨se_blind se_ZN_ok, va_recv hK hP (ci := 4) (q0 := 5) rfl rfl, se_pre se_ZN_ok hP hK hD hZ⟩ rfl rfl hl.1 rfl (lv_room (Nat.le_of_ble_eq_true rfl)) dX5_makeOpen_62 ⟨Nat.zero_le _, Nat.zero_le _⟩) hD hS hA (fun g2 H locs eg2 hP hD hS => ?_)
    refine lv_aload_n hx hb dX5_makeOpen_65 rfl (lv_at hl 0 rfl) ?_
    refine va_get (D := D) (ci := 5) (v := .ref (h 5)) (C := RX5) (T := TX5) (N := 12) hx hb hts (se_iw iwX5) hown hK hP 0 rfl rfl 4 (by decide) (hts _ (List.mem_cons_of_mem _ qX5_f35)) (fun _ h9 => h9) rfl dX5_makeOpen_66 ?_
    refine se_cvE (va_runVN (C := RX4) (As := []) (rest := []) ⟨hx, hb, hml, hown, hts⟩ (c_S_Watch_setAlarmIfOff l D k h _ g2) (se_kVN 0 hts q_code_X4_setAlarmIfOff (hZ _ nX5_m350 rfl) q_ini_StreamEnd_Watch q_instanceMethod_X4_setAlarmIfOff q_sel_X4_setAlarmIfOff (by decide +kernel) ⟨Nat.le_of_ble_eq_true rfl, Nat.le_of_ble_eq_true rfl⟩ rfl rfl) ⟨se_blind se_ZN_ok, va_recv hK hP (ci := 4) (q0 := 5) rfl rfl, se_pre se_ZN_ok hP hK hD hZ⟩ rfl rfl hl.1 rfl (lv_room (Nat.le_of_ble_eq_true rfl)) dX5_makeOpen_69 ⟨Nat.zero_le _, Nat.zero_le _⟩) hD hS hA (fun g3 H locs eg3 hP hD hS => ?_)
    exact se_rv hx hb hr hlocks hK hP hD hS dX5_makeOpen_72 (by subst eg2; subst eg3; rw [← hF, F_S_makeOpen_k1, if_pos c1])
  · refine lv_aload_n hx hb dX5_makeOpen_32 rfl (lv_at hl 0 rfl) ?_
    refine va_get (D := D) (ci := 5) (v := .ref (h 5)) (C := RX5) (T := TX5) (N := 12) hx hb hts (se_iw iwX5) hown hK hP 0 rfl rfl 4 (by decide) (hts _ (List.mem_cons_of_mem _ qX5_f35)) (fun _ h9 => h9) rfl dX5_makeOpen_33 ?_
    refine lv_iconst (v := 0) hx hb dX5_makeOpen_36 (by decide) ?_
    refine va_putN (D := D) (ci := 4) (v := .int 0) (ty := .boolean) (C := RX4) (T := TX4) (N := 11) hx hb hts (se_iw iwX4) tyX4 tyX4_ok nmX4 hown hK hP hD hS 5 rfl rfl 8 (by decide) (va_Nw.use rfl (hZ _ nX5_f344 rfl)) (fun _ h9 => h9) rfl (by decide +kernel) rfl rfl (Nat.le_of_ble_eq_true rfl) dX5_makeOpen_37 (fun H locs hP hD hS => ?_)
    replace hP : va_P D se_cl (se_WS k h (se_u g1 5 8 0)) H := hP
    replace hD : va_D A (se_WS k h (se_u g1 5 8 0)) := hD
    refine lv_goto (tgt := 65) hx hb dX5_makeOpen_40 (by decide) ?_
    refine lv_aload_n hx hb dX5_makeOpen_65 rfl (lv_at hl 0 rfl) ?_
    refine va_get (D := D) (ci := 5) (v := .ref (h 5)) (C := RX5) (T := TX5) (N := 12) hx hb hts (se_iw iwX5) hown hK hP 0 rfl rfl 4 (by decide) (hts _ (List.mem_cons_of_mem _ qX5_f35)) (fun _ h9 => h9) rfl dX5_makeOpen_66 ?_
    refine se_cvE (va_runVN (C := RX4) (As := []) (rest := []) ⟨hx, hb, hml, hown, hts⟩ (c_S_Watch_setAlarmIfOff l D k h _ (se_u g1 5 8 0)) (se_kVN 0 hts q_code_X4_setAlarmIfOff (hZ _ nX5_m350 rfl) q_ini_StreamEnd_Watch q_instanceMethod_X4_setAlarmIfOff q_sel_X4_setAlarmIfOff (by decide +kernel) ⟨Nat.le_of_ble_eq_true rfl, Nat.le_of_ble_eq_true rfl⟩ rfl rfl) ⟨se_blind se_ZN_ok, va_recv hK hP (ci := 4) (q0 := 5) rfl rfl, se_pre se_ZN_ok hP hK hD hZ⟩ rfl rfl hl.1 rfl (lv_room (Nat.le_of_ble_eq_true rfl)) dX5_makeOpen_69 ⟨Nat.zero_le _, Nat.zero_le _⟩) hD hS hA (fun g4 H locs eg4 hP hD hS => ?_)
    exact se_rv hx hb hr hlocks hK hP hD hS dX5_makeOpen_72 (by subst eg4; rw [← hF, F_S_makeOpen_k1, if_neg c1])
set_option maxRecDepth 100000 in
set_option maxHeartbeats 4000000 in
theorem c_S_Segment_has_9 (l : Launch) (D : va_G) (k : Nat → ClassId) (h : Nat → Nat) (sz : Nat) (g : se_G) (p1 : Int32) : Met l yX3_has (se_w_X3_has) ({ frames := 0, cells := 0, slots := 0, locals := 0 }) (va_Pc [.ref (h 9), .int p1] (se_Pre D se_cl [(k 2, .byte), (k 4, .int), (k 8, .byte), (k 10, .byte)] (se_WS k h g) se_ZN sz)) (se_Qp D se_cl [(k 2, .byte), (k 4, .int), (k 8, .byte), (k 10, .byte)] (se_WS k h) (F_S_Segment_has_9 g p1) g (va_A (se_WS k h g) sz)) 0 0 (va_A (se_WS k h g) sz) := by
  refine se_met (Qc := se_Qp D se_cl [(k 2, .byte), (k 4, .int), (k 8, .byte), (k 10, .byte)] (se_WS k h) (F_S_Segment_has_9 g p1) g) (cc := cX3_has) (maxL := 2) (ret := (some .boolean)) (by decide) rfl (Nat.le_of_ble_eq_true rfl) ?_
  intro p e s m below meth c ls A hx hb hr hts hown hlocks hml hA hP hK hD hS hZ hl
  replace hl : lv_has ls 2 [(0, .ref (h 9)), (1, .int p1)] := hl
  have hF : F_S_Segment_has_9 g p1 = F_S_Segment_has_9 g p1 := rfl
  refine lv_aload_n hx hb dX3_has_0 rfl (lv_at hl 0 rfl) ?_
  refine va_get (D := D) (ci := 3) (v := .int (g 9 2)) (C := RX3) (T := TX3) (N := 7) hx hb hts (se_iw iwX3) hown hK hP 9 rfl rfl 2 (by decide) (hts _ (List.mem_cons_of_mem _ qX3_f15)) (fun _ h9 => h9) rfl dX3_has_1 ?_
  refine lv_iload_n hx hb dX3_has_4 rfl (lv_at hl 1 rfl) ?_
  refine lv_iand hx hb dX3_has_5 ?_
  refine lv_if_eq (tgt := 13) hx hb dX3_has_6 (by decide) (fun c1 => ?_) (fun c1 => ?_)
  · refine lv_iconst (v := 0) hx hb dX3_has_13 (by decide) ?_
    exact se_rpz hx hb hr rfl hlocks hK hP hD hS dX3_has_14 (by rw [F_S_Segment_has_9, if_pos c1])
  · refine lv_iconst (v := 1) hx hb dX3_has_9 (by decide) ?_
    refine lv_goto (tgt := 14) hx hb dX3_has_10 (by decide) ?_
    exact se_rpz hx hb hr rfl hlocks hK hP hD hS dX3_has_14 (by rw [F_S_Segment_has_9, if_neg c1])
set_option maxRecDepth 100000 in
set_option maxHeartbeats 4000000 in
theorem c_S_makeReset (l : Launch) (D : va_G) (k : Nat → ClassId) (h : Nat → Nat) (sz : Nat) (g : se_G)  : Met l yX5_makeReset (se_w_X5_makeReset) ({ frames := 1, cells := 0, slots := 0, locals := 25 }) (va_Pc [.ref (h 0)] (se_Pre D se_cl [(k 2, .byte), (k 4, .int), (k 8, .byte), (k 10, .byte)] (se_WS k h g) se_ZN sz)) (se_Qv D se_cl [(k 2, .byte), (k 4, .int), (k 8, .byte), (k 10, .byte)] (se_WS k h) (F_S_makeReset g) (va_A (se_WS k h g) sz)) 0 0 (va_A (se_WS k h g) sz) := by
  refine se_met (Qc := se_Qv D se_cl [(k 2, .byte), (k 4, .int), (k 8, .byte), (k 10, .byte)] (se_WS k h) (F_S_makeReset g)) (cc := cX5_makeReset) (maxL := 1) (ret := none) (by decide) rfl (Nat.le_of_ble_eq_true rfl) ?_
  intro p e s m below meth c ls A hx hb hr hts hown hlocks hml hA hP hK hD hS hZ hl
  replace hl : lv_has ls 1 [(0, .ref (h 0))] := hl
  have hF : F_S_makeReset g = F_S_makeReset g := rfl
  refine lv_aload_n hx hb dX5_makeReset_0 rfl (lv_at hl 0 rfl) ?_
  refine va_get (D := D) (ci := 5) (v := .ref (h 6)) (C := RX5) (T := TX5) (N := 12) hx hb hts (se_iw iwX5) hown hK hP 0 rfl rfl 5 (by decide) (hts _ (List.mem_cons_of_mem _ qX5_f42)) (fun _ h9 => h9) rfl dX5_makeReset_1 ?_
  refine lv_iconst (v := 0) hx hb dX5_makeReset_4 (by decide) ?_
  refine va_putN (D := D) (ci := 0) (v := .int 0) (ty := .boolean) (C := RX0) (T := TX0) (N := 9) hx hb hts (se_iw iwX0) tyX0 tyX0_ok nmX0 hown hK hP hD hS 6 rfl rfl 0 (by decide) (va_Nw.use rfl (hZ _ nX5_f167 rfl)) (fun _ h9 => h9) rfl (by decide +kernel) rfl rfl (Nat.le_of_ble_eq_true rfl) dX5_makeReset_5 (fun H locs hP hD hS => ?_)
  replace hP : va_P D se_cl (se_WS k h (se_u g 6 0 0)) H := hP
  replace hD : va_D A (se_WS k h (se_u g 6 0 0)) := hD
  refine lv_aload_n hx hb dX5_makeReset_8 rfl (lv_at hl 0 rfl) ?_
  refine va_get (D := D) (ci := 5) (v := .ref (h 9)) (C := RX5) (T := TX5) (N := 12) hx hb hts (se_iw iwX5) hown hK hP 0 rfl rfl 7 (by decide) (hts _ (List.mem_cons_of_mem _ qX5_f53)) (fun _ h9 => h9) rfl dX5_makeReset_9 ?_
  refine lv_aload_n hx hb dX5_makeReset_12 rfl (lv_at hl 0 rfl) ?_
  refine va_get (D := D) (ci := 5) (v := .ref (h 6)) (C := RX5) (T := TX5) (N := 12) hx hb hts (se_iw iwX5) hown hK hP 0 rfl rfl 5 (by decide) (hts _ (List.mem_cons_of_mem _ qX5_f42)) (fun _ h9 => h9) rfl dX5_makeReset_13 ?_
  refine va_getN (D := D) (ci := 0) (v := .int (g 6 1)) (C := RX0) (T := TX0) (N := 9) hx hb hts (se_iw iwX0) hown hK hP 6 rfl rfl 1 (by decide) (va_Nw.use rfl (hZ _ nX5_f329 rfl)) (fun _ h9 => h9) rfl dX5_makeReset_16 ?_
  refine lv_aload_n hx hb dX5_makeReset_19 rfl (lv_at hl 0 rfl) ?_
  refine va_get (D := D) (ci := 5) (v := .ref (h 6)) (C := RX5) (T := TX5) (N := 12) hx hb hts (se_iw iwX5) hown hK hP 0 rfl rfl 5 (by decide) (hts _ (List.mem_cons_of_mem _ qX5_f42)) (fun _ h9 => h9) rfl dX5_makeReset_20 ?_
  refine va_getN (D := D) (ci := 0) (v := .int (g 6 2)) (C := RX0) (T := TX0) (N := 9) hx hb hts (se_iw iwX0) hown hK hP 6 rfl rfl 2 (by decide) (va_Nw.use rfl (hZ _ nX5_f332 rfl)) (fun _ h9 => h9) rfl dX5_makeReset_23 ?_
  refine lv_aload_n hx hb dX5_makeReset_26 rfl (lv_at hl 0 rfl) ?_
  refine va_get (D := D) (ci := 5) (v := .ref (h 6)) (C := RX5) (T := TX5) (N := 12) hx hb hts (se_iw iwX5) hown hK hP 0 rfl rfl 5 (by decide) (hts _ (List.mem_cons_of_mem _ qX5_f42)) (fun _ h9 => h9) rfl dX5_makeReset_27 ?_
  refine va_getN (D := D) (ci := 0) (v := .int (g 6 3)) (C := RX0) (T := TX0) (N := 9) hx hb hts (se_iw iwX0) hown hK hP 6 rfl rfl 3 (by decide) (va_Nw.use rfl (hZ _ nX5_f335 rfl)) (fun _ h9 => h9) rfl dX5_makeReset_30 ?_
  refine lv_iconst (v := 0) hx hb dX5_makeReset_33 (by decide) ?_
  refine lv_iconst (v := 0) hx hb dX5_makeReset_34 (by decide) ?_
  refine se_cvE (va_runVN (C := RX3) (As := [.int (g 6 1), .int (g 6 2), .int (g 6 3), .int 0, .int 0]) (rest := []) ⟨hx, hb, hml, hown, hts⟩ (c_S_Segment_headIs_9 l D k h _ (se_u g 6 0 0) (g 6 1) (g 6 2) (g 6 3) 0 0) (se_kVN 5 hts q_code_X3_headIs (hZ _ nX5_m252 rfl) q_ini_StreamEnd_Segment q_instanceMethod_X3_headIs q_sel_X3_headIs (by decide +kernel) ⟨Nat.le_of_ble_eq_true rfl, Nat.le_of_ble_eq_true rfl⟩ rfl rfl) ⟨se_blind se_ZN_ok, va_recv hK hP (ci := 3) (q0 := 9) rfl rfl, se_pre se_ZN_ok hP hK hD hZ⟩ rfl rfl hl.1 rfl (lv_room (Nat.le_of_ble_eq_true rfl)) dX5_makeReset_35 ⟨Nat.zero_le _, Nat.zero_le _⟩) hD hS hA (fun g1 H locs eg1 hP hD hS => ?_)
  replace hF : (F_S_makeReset_k1 (F_S_Segment_headIs_9 (se_u g 6 0 0) (g 6 1) (g 6 2) (g 6 3) 0 0)) = F_S_makeReset g := by rw [F_S_makeReset]
  rw [← eg1] at hF
  replace hF : F_S_makeReset_k1 g1 = F_S_makeReset g := hF
  refine lv_aload_n hx hb dX5_makeReset_38 rfl (lv_at hl 0 rfl) ?_
  refine va_get (D := D) (ci := 5) (v := .ref (h 9)) (C := RX5) (T := TX5) (N := 12) hx hb hts (se_iw iwX5) hown hK hP 0 rfl rfl 7 (by decide) (hts _ (List.mem_cons_of_mem _ qX5_f53)) (fun _ h9 => h9) rfl dX5_makeReset_39 ?_
  refine lv_iconst (v := 0) hx hb dX5_makeReset_42 (by decide) ?_
  refine va_putN (D := D) (ci := 3) (v := .int 0) (ty := .int) (C := RX3) (T := TX3) (N := 7) hx hb hts (se_iw iwX3) tyX3 tyX3_ok nmX3 hown hK hP hD hS 9 rfl rfl 1 (by decide) (va_Nw.use rfl (hZ _ nX5_f230 rfl)) (fun _ h9 => h9) rfl (by decide +kernel) rfl rfl (Nat.le_of_ble_eq_true rfl) dX5_makeReset_43 (fun H locs hP hD hS => ?_)
  replace hP : va_P D se_cl (se_WS k h (se_u g1 9 1 0)) H := hP
  replace hD : va_D A (se_WS k h (se_u g1 9 1 0)) := hD
  refine lv_aload_n hx hb dX5_makeReset_46 rfl (lv_at hl 0 rfl) ?_
  refine va_get (D := D) (ci := 5) (v := .ref (h 9)) (C := RX5) (T := TX5) (N := 12) hx hb hts (se_iw iwX5) hown hK hP 0 rfl rfl 7 (by decide) (hts _ (List.mem_cons_of_mem _ qX5_f53)) (fun _ h9 => h9) rfl dX5_makeReset_47 ?_
  refine lv_bipush (v := 8) hx hb dX5_makeReset_50 (by decide) ?_
  refine se_cp (va_runVN (C := RX3) (As := [.int 8]) (rest := []) ⟨hx, hb, hml, hown, hts⟩ (c_S_Segment_has_9 l D k h _ (se_u g1 9 1 0) 8) (se_kVN 1 hts q_code_X3_has (hZ _ nX5_m338 rfl) q_ini_StreamEnd_Segment q_instanceMethod_X3_has q_sel_X3_has (by decide +kernel) ⟨Nat.le_of_ble_eq_true rfl, Nat.le_of_ble_eq_true rfl⟩ rfl rfl) ⟨se_blind se_ZN_ok, va_recv hK hP (ci := 3) (q0 := 9) rfl rfl, se_pre se_ZN_ok hP hK hD hZ⟩ rfl rfl hl.1 rfl (lv_room (Nat.le_of_ble_eq_true rfl)) dX5_makeReset_52 ⟨Nat.zero_le _, Nat.zero_le _⟩) hD hS hA (fun H locs hP hD hS => ?_)
  refine lv_if_eq (tgt := 66) hx hb dX5_makeReset_55 (by decide) (fun c1 => ?_) (fun c1 => ?_)
  · exact se_rv hx hb hr hlocks hK hP hD hS dX5_makeReset_66 (by rw [← hF, F_S_makeReset_k1, if_pos c1])
  · refine lv_aload_n hx hb dX5_makeReset_58 rfl (lv_at hl 0 rfl) ?_
    refine va_get (D := D) (ci := 5) (v := .ref (h 6)) (C := RX5) (T := TX5) (N := 12) hx hb hts (se_iw iwX5) hown hK hP 0 rfl rfl 5 (by decide) (hts _ (List.mem_cons_of_mem _ qX5_f42)) (fun _ h9 => h9) rfl dX5_makeReset_59 ?_
    refine lv_iconst (v := 0) hx hb dX5_makeReset_62 (by decide) ?_
    refine va_putN (D := D) (ci := 0) (v := .int 0) (ty := .boolean) (C := RX0) (T := TX0) (N := 9) hx hb hts (se_iw iwX0) tyX0 tyX0_ok nmX0 hown hK hP hD hS 6 rfl rfl 8 (by decide) (va_Nw.use rfl (hZ _ nX5_f206 rfl)) (fun _ h9 => h9) rfl (by decide +kernel) rfl rfl (Nat.le_of_ble_eq_true rfl) dX5_makeReset_63 (fun H locs hP hD hS => ?_)
    replace hP : va_P D se_cl (se_WS k h (se_u (se_u g1 9 1 0) 6 8 0)) H := hP
    replace hD : va_D A (se_WS k h (se_u (se_u g1 9 1 0) 6 8 0)) := hD
    exact se_rv hx hb hr hlocks hK hP hD hS dX5_makeReset_66 (by rw [← hF, F_S_makeReset_k1, if_neg c1])
set_option maxRecDepth 100000 in
set_option maxHeartbeats 4000000 in
theorem c_S_next (l : Launch) (D : va_G) (k : Nat → ClassId) (h : Nat → Nat) (sz : Nat) (g : se_G)  : Met l yX5_next (se_w_X5_next) ({ frames := 5, cells := 0, slots := 0, locals := 114 }) (va_Pc [.ref (h 0)] (se_Pre D se_cl [(k 2, .byte), (k 4, .int), (k 8, .byte), (k 10, .byte)] (se_WS k h g) se_ZN sz)) (se_Qi D se_cl [(k 2, .byte), (k 4, .int), (k 8, .byte), (k 10, .byte)] (se_WS k h) (F_S_next g) (va_A (se_WS k h g) sz)) 0 0 (va_A (se_WS k h g) sz) := by
  refine se_met (Qc := se_Qi D se_cl [(k 2, .byte), (k 4, .int), (k 8, .byte), (k 10, .byte)] (se_WS k h) (F_S_next g)) (cc := cX5_next) (maxL := 1) (ret := (some .boolean)) (by decide) rfl (Nat.le_of_ble_eq_true rfl) ?_
  intro p e s m below meth c ls A hx hb hr hts hown hlocks hml hA hP hK hD hS hZ hl
  replace hl : lv_has ls 1 [(0, .ref (h 0))] := hl
  have J89 : ∀ (gj89 : se_G) (H : Heap) (locs : List Loc) (ls : Array Slot), F_S_next_j89 gj89 = F_S_next g → va_P D se_cl (se_WS k h gj89) H → va_D A (se_WS k h gj89) → va_S A s.heap H locs → lv_has ls 1 [(0, .ref (h 0))] → W p l e ({ frames := 5, cells := 0, slots := 0, locals := 114 }) s m [.ref (h 0)].toArray below meth c H locs 0 0 (MQ below (se_Qi D se_cl [(k 2, .byte), (k 4, .int), (k 8, .byte), (k 10, .byte)] (se_WS k h) (F_S_next g) A) [.ref (h 0)].toArray s 0 0 A) (F0 m 89 ls []) := by
    intro gj89 H locs ls hF hP hD hS hl
    refine lv_aload_n hx hb dX5_next_89 rfl (lv_at hl 0 rfl) ?_
    refine va_get (D := D) (ci := 5) (v := .ref (h 6)) (C := RX5) (T := TX5) (N := 12) hx hb hts (se_iw iwX5) hown hK hP 0 rfl rfl 5 (by decide) (hts _ (List.mem_cons_of_mem _ qX5_f42)) (fun _ h9 => h9) rfl dX5_next_90 ?_
    refine va_getN (D := D) (ci := 0) (v := .int (gj89 6 7)) (C := RX0) (T := TX0) (N := 9) hx hb hts (se_iw iwX0) hown hK hP 6 rfl rfl 7 (by decide) (va_Nw.use rfl (hZ _ nX5_f200 rfl)) (fun _ h9 => h9) rfl dX5_next_93 ?_
    refine lv_if_eq (tgt := 106) hx hb dX5_next_96 (by decide) (fun c5 => ?_) (fun c5 => ?_)
    · refine lv_aload_n hx hb dX5_next_106 rfl (lv_at hl 0 rfl) ?_
      refine va_get (D := D) (ci := 5) (v := .ref (h 6)) (C := RX5) (T := TX5) (N := 12) hx hb hts (se_iw iwX5) hown hK hP 0 rfl rfl 5 (by decide) (hts _ (List.mem_cons_of_mem _ qX5_f42)) (fun _ h9 => h9) rfl dX5_next_107 ?_
      refine va_getN (D := D) (ci := 0) (v := .int (gj89 6 8)) (C := RX0) (T := TX0) (N := 9) hx hb hts (se_iw iwX0) hown hK hP 6 rfl rfl 8 (by decide) (va_Nw.use rfl (hZ _ nX5_f206 rfl)) (fun _ h9 => h9) rfl dX5_next_110 ?_
      refine lv_if_eq (tgt := 133) hx hb dX5_next_113 (by decide) (fun c6 => ?_) (fun c6 => ?_)
      · refine lv_iconst (v := 0) hx hb dX5_next_133 (by decide) ?_
        exact se_riz hx hb hr rfl hlocks hK hP hD hS dX5_next_134 (by rw [← hF, F_S_next_j89, if_pos c5, if_pos c6])
      · refine lv_aload_n hx hb dX5_next_116 rfl (lv_at hl 0 rfl) ?_
        refine lv_iconst (v := 0) hx hb dX5_next_117 (by decide) ?_
        refine lv_aload_n hx hb dX5_next_118 rfl (lv_at hl 0 rfl) ?_
        refine va_get (D := D) (ci := 5) (v := .ref (h 1)) (C := RX5) (T := TX5) (N := 12) hx hb hts (se_iw iwX5) hown hK hP 0 rfl rfl 2 (by decide) (hts _ (List.mem_cons_of_mem _ qX5_f21)) (fun _ h9 => h9) rfl dX5_next_119 ?_
        refine va_getN (D := D) (ci := 2) (v := .int (gj89 1 6)) (C := RX2) (T := TX2) (N := 13) hx hb hts (se_iw iwX2) hown hK hP 1 rfl rfl 6 (by decide) (va_Nw.use rfl (hZ _ nX5_f137 rfl)) (fun _ h9 => h9) rfl dX5_next_122 ?_
        refine lv_iconst (v := 0) hx hb dX5_next_125 (by decide) ?_
        refine lv_iconst (v := 0) hx hb dX5_next_126 (by decide) ?_
        refine se_cvE (va_runV (C := RX5) (As := [.int 0, .int (gj89 1 6), .int 0, .int 0]) (rest := []) ⟨hx, hb, hml, hown, hts⟩ (c_S_make l D k h _ gj89 0 (gj89 1 6) 0 0) (se_kV 4 hts q_code_X5_make qX5_m209 q_ini_StreamEnd q_instanceMethod_X5_make q_sel_X5_make (by decide +kernel) ⟨Nat.le_of_ble_eq_true rfl, Nat.le_of_ble_eq_true rfl⟩ rfl rfl) ⟨se_blind se_ZN_ok, va_recv hK hP (ci := 5) (q0 := 0) rfl rfl, se_pre se_ZN_ok hP hK hD hZ⟩ rfl rfl hl.1 rfl (lv_room (Nat.le_of_ble_eq_true rfl)) dX5_next_127 ⟨Nat.zero_le _, Nat.zero_le _⟩) hD hS hA (fun g1 H locs eg1 hP hD hS => ?_)
        refine lv_goto (tgt := 135) hx hb dX5_next_130 (by decide) ?_
        refine lv_aload_n hx hb dX5_next_135 rfl (lv_at hl 0 rfl) ?_
        refine lv_iconst (v := 1) hx hb dX5_next_136 (by decide) ?_
        refine va_put (D := D) (ci := 5) (v := .int 1) (ty := .boolean) (C := RX5) (T := TX5) (N := 12) hx hb hts (se_iw iwX5) tyX5 tyX5_ok nmX5 hown hK hP hD hS 0 rfl rfl 8 (by decide) (hts _ (List.mem_cons_of_mem _ qX5_f56)) (fun _ h9 => h9) rfl (by decide +kernel) rfl rfl (Nat.le_of_ble_eq_true rfl) dX5_next_137 (fun H locs hP hD hS => ?_)
        replace hP : va_P D se_cl (se_WS k h (se_u g1 0 8 1)) H := hP
        replace hD : va_D A (se_WS k h (se_u g1 0 8 1)) := hD
        refine lv_iconst (v := 1) hx hb dX5_next_140 (by decide) ?_
        exact se_riz hx hb hr rfl hlocks hK hP hD hS dX5_next_141 (by subst eg1; rw [← hF, F_S_next_j89, if_pos c5, if_neg c6])
    · refine lv_aload_n hx hb dX5_next_99 rfl (lv_at hl 0 rfl) ?_
      refine se_cvE (va_runV (C := RX5) (As := []) (rest := []) ⟨hx, hb, hml, hown, hts⟩ (c_S_makeProbe l D k h _ gj89) (se_kV 0 hts q_code_X5_makeProbe qX5_m203 q_ini_StreamEnd q_instanceMethod_X5_makeProbe q_sel_X5_makeProbe (by decide +kernel) ⟨Nat.le_of_ble_eq_true rfl, Nat.le_of_ble_eq_true rfl⟩ rfl rfl) ⟨se_blind se_ZN_ok, va_recv hK hP (ci := 5) (q0 := 0) rfl rfl, se_pre se_ZN_ok hP hK hD hZ⟩ rfl rfl hl.1 rfl (lv_room (Nat.le_of_ble_eq_true rfl)) dX5_next_100 ⟨Nat.zero_le _, Nat.zero_le _⟩) hD hS hA (fun g2 H locs eg2 hP hD hS => ?_)
      refine lv_goto (tgt := 135) hx hb dX5_next_103 (by decide) ?_
      refine lv_aload_n hx hb dX5_next_135 rfl (lv_at hl 0 rfl) ?_
      refine lv_iconst (v := 1) hx hb dX5_next_136 (by decide) ?_
      refine va_put (D := D) (ci := 5) (v := .int 1) (ty := .boolean) (C := RX5) (T := TX5) (N := 12) hx hb hts (se_iw iwX5) tyX5 tyX5_ok nmX5 hown hK hP hD hS 0 rfl rfl 8 (by decide) (hts _ (List.mem_cons_of_mem _ qX5_f56)) (fun _ h9 => h9) rfl (by decide +kernel) rfl rfl (Nat.le_of_ble_eq_true rfl) dX5_next_137 (fun H locs hP hD hS => ?_)
      replace hP : va_P D se_cl (se_WS k h (se_u g2 0 8 1)) H := hP
      replace hD : va_D A (se_WS k h (se_u g2 0 8 1)) := hD
      refine lv_iconst (v := 1) hx hb dX5_next_140 (by decide) ?_
      exact se_riz hx hb hr rfl hlocks hK hP hD hS dX5_next_141 (by subst eg2; rw [← hF, F_S_next_j89, if_neg c5])
  have hF : F_S_next g = F_S_next g := rfl
  refine lv_aload_n hx hb dX5_next_0 rfl (lv_at hl 0 rfl) ?_
  refine va_get (D := D) (ci := 5) (v := .ref (h 6)) (C := RX5) (T := TX5) (N := 12) hx hb hts (se_iw iwX5) hown hK hP 0 rfl rfl 5 (by decide) (hts _ (List.mem_cons_of_mem _ qX5_f42)) (fun _ h9 => h9) rfl dX5_next_1 ?_
  refine va_getN (D := D) (ci := 0) (v := .int (g 6 0)) (C := RX0) (T := TX0) (N := 9) hx hb hts (se_iw iwX0) hown hK hP 6 rfl rfl 0 (by decide) (va_Nw.use rfl (hZ _ nX5_f167 rfl)) (fun _ h9 => h9) rfl dX5_next_4 ?_
  refine lv_if_eq (tgt := 17) hx hb dX5_next_7 (by decide) (fun c1 => ?_) (fun c1 => ?_)
  · refine lv_aload_n hx hb dX5_next_17 rfl (lv_at hl 0 rfl) ?_
    refine va_get (D := D) (ci := 5) (v := .ref (h 6)) (C := RX5) (T := TX5) (N := 12) hx hb hts (se_iw iwX5) hown hK hP 0 rfl rfl 5 (by decide) (hts _ (List.mem_cons_of_mem _ qX5_f42)) (fun _ h9 => h9) rfl dX5_next_18 ?_
    refine va_getN (D := D) (ci := 0) (v := .int (g 6 4)) (C := RX0) (T := TX0) (N := 9) hx hb hts (se_iw iwX0) hown hK hP 6 rfl rfl 4 (by decide) (va_Nw.use rfl (hZ _ nX5_f173 rfl)) (fun _ h9 => h9) rfl dX5_next_21 ?_
    refine lv_if_eq (tgt := 34) hx hb dX5_next_24 (by decide) (fun c2 => ?_) (fun c2 => ?_)
    · refine lv_aload_n hx hb dX5_next_34 rfl (lv_at hl 0 rfl) ?_
      refine va_get (D := D) (ci := 5) (v := .ref (h 6)) (C := RX5) (T := TX5) (N := 12) hx hb hts (se_iw iwX5) hown hK hP 0 rfl rfl 5 (by decide) (hts _ (List.mem_cons_of_mem _ qX5_f42)) (fun _ h9 => h9) rfl dX5_next_35 ?_
      refine va_getN (D := D) (ci := 0) (v := .int (g 6 6)) (C := RX0) (T := TX0) (N := 9) hx hb hts (se_iw iwX0) hown hK hP 6 rfl rfl 6 (by decide) (va_Nw.use rfl (hZ _ nX5_f179 rfl)) (fun _ h9 => h9) rfl dX5_next_38 ?_
      refine lv_if_eq (tgt := 51) hx hb dX5_next_41 (by decide) (fun c3 => ?_) (fun c3 => ?_)
      · refine lv_aload_n hx hb dX5_next_51 rfl (lv_at hl 0 rfl) ?_
        refine se_cp (va_runV (C := RX5) (As := []) (rest := []) ⟨hx, hb, hml, hown, hts⟩ (c_S_maySendNew l D k h _ g) (se_kV 0 hts q_code_X5_maySendNew qX5_m185 q_ini_StreamEnd q_instanceMethod_X5_maySendNew q_sel_X5_maySendNew (by decide +kernel) ⟨Nat.le_of_ble_eq_true rfl, Nat.le_of_ble_eq_true rfl⟩ rfl rfl) ⟨se_blind se_ZN_ok, va_recv hK hP (ci := 5) (q0 := 0) rfl rfl, se_pre se_ZN_ok hP hK hD hZ⟩ rfl rfl hl.1 rfl (lv_room (Nat.le_of_ble_eq_true rfl)) dX5_next_52 ⟨Nat.zero_le _, Nat.zero_le _⟩) hD hS hA (fun H locs hP hD hS => ?_)
        refine lv_if_eq (tgt := 89) hx hb dX5_next_55 (by decide) (fun c4 => ?_) (fun c4 => ?_)
        · exact J89 g _ _ ls (by rw [F_S_next, if_pos c1, if_pos c2, if_pos c3, if_pos c4]) hP hD hS (lv_sub hl [0] rfl)
        · refine lv_aload_n hx hb dX5_next_58 rfl (lv_at hl 0 rfl) ?_
          refine va_get (D := D) (ci := 5) (v := .ref (h 1)) (C := RX5) (T := TX5) (N := 12) hx hb hts (se_iw iwX5) hown hK hP 0 rfl rfl 2 (by decide) (hts _ (List.mem_cons_of_mem _ qX5_f21)) (fun _ h9 => h9) rfl dX5_next_59 ?_
          refine se_cp (va_runVN (C := RX2) (As := []) (rest := []) ⟨hx, hb, hml, hown, hts⟩ (c_S_Outgoing_maySend l D k h _ g) (se_kVN 0 hts q_code_X2_maySend (hZ _ nX5_m188 rfl) q_ini_StreamEnd_Outgoing q_instanceMethod_X2_maySend q_sel_X2_maySend (by decide +kernel) ⟨Nat.le_of_ble_eq_true rfl, Nat.le_of_ble_eq_true rfl⟩ rfl rfl) ⟨se_blind se_ZN_ok, va_recv hK hP (ci := 2) (q0 := 1) rfl rfl, se_pre se_ZN_ok hP hK hD hZ⟩ rfl rfl hl.1 rfl (lv_room (Nat.le_of_ble_eq_true rfl)) dX5_next_62 ⟨Nat.zero_le _, Nat.zero_le _⟩) hD hS hA (fun H locs hP hD hS => ?_)
          refine lv_if_eq (tgt := 89) hx hb dX5_next_65 (by decide) (fun c7 => ?_) (fun c7 => ?_)
          · exact J89 g _ _ ls (by rw [F_S_next, if_pos c1, if_pos c2, if_pos c3, if_neg c4, if_pos c7]) hP hD hS (lv_sub hl [0] rfl)
          · refine lv_aload_n hx hb dX5_next_68 rfl (lv_at hl 0 rfl) ?_
            refine lv_aload_n hx hb dX5_next_69 rfl (lv_at hl 0 rfl) ?_
            refine va_get (D := D) (ci := 5) (v := .ref (h 1)) (C := RX5) (T := TX5) (N := 12) hx hb hts (se_iw iwX5) hown hK hP 0 rfl rfl 2 (by decide) (hts _ (List.mem_cons_of_mem _ qX5_f21)) (fun _ h9 => h9) rfl dX5_next_70 ?_
            refine se_cp (va_runVN (C := RX2) (As := []) (rest := [.ref (h 0)]) ⟨hx, hb, hml, hown, hts⟩ (c_S_Outgoing_newBytes l D k h _ g) (se_kVN 0 hts q_code_X2_newBytes (hZ _ nX5_m191 rfl) q_ini_StreamEnd_Outgoing q_instanceMethod_X2_newBytes q_sel_X2_newBytes (by decide +kernel) ⟨Nat.le_of_ble_eq_true rfl, Nat.le_of_ble_eq_true rfl⟩ rfl rfl) ⟨se_blind se_ZN_ok, va_recv hK hP (ci := 2) (q0 := 1) rfl rfl, se_pre se_ZN_ok hP hK hD hZ⟩ rfl rfl hl.1 rfl (lv_room (Nat.le_of_ble_eq_true rfl)) dX5_next_73 ⟨Nat.zero_le _, Nat.zero_le _⟩) hD hS hA (fun H locs hP hD hS => ?_)
            refine lv_aload_n hx hb dX5_next_76 rfl (lv_at hl 0 rfl) ?_
            refine va_get (D := D) (ci := 5) (v := .ref (h 1)) (C := RX5) (T := TX5) (N := 12) hx hb hts (se_iw iwX5) hown hK hP 0 rfl rfl 2 (by decide) (hts _ (List.mem_cons_of_mem _ qX5_f21)) (fun _ h9 => h9) rfl dX5_next_77 ?_
            refine se_cp (va_runVN (C := RX2) (As := []) (rest := [.int (F_S_Outgoing_newBytes g), .ref (h 0)]) ⟨hx, hb, hml, hown, hts⟩ (c_S_Outgoing_newHasLast l D k h _ g) (se_kVN 0 hts q_code_X2_newHasLast (hZ _ nX5_m194 rfl) q_ini_StreamEnd_Outgoing q_instanceMethod_X2_newHasLast q_sel_X2_newHasLast (by decide +kernel) ⟨Nat.le_of_ble_eq_true rfl, Nat.le_of_ble_eq_true rfl⟩ rfl rfl) ⟨se_blind se_ZN_ok, va_recv hK hP (ci := 2) (q0 := 1) rfl rfl, se_pre se_ZN_ok hP hK hD hZ⟩ rfl rfl hl.1 rfl (lv_room (Nat.le_of_ble_eq_true rfl)) dX5_next_80 ⟨Nat.zero_le _, Nat.zero_le _⟩) hD hS hA (fun H locs hP hD hS => ?_)
            refine se_cvE (va_runV (C := RX5) (As := [.int (F_S_Outgoing_newBytes g), .int (F_S_Outgoing_newHasLast g)]) (rest := []) ⟨hx, hb, hml, hown, hts⟩ (c_S_makeNew l D k h _ g (F_S_Outgoing_newBytes g) (F_S_Outgoing_newHasLast g)) (se_kV 2 hts q_code_X5_makeNew qX5_m197 q_ini_StreamEnd q_instanceMethod_X5_makeNew q_sel_X5_makeNew (by decide +kernel) ⟨Nat.le_of_ble_eq_true rfl, Nat.le_of_ble_eq_true rfl⟩ rfl rfl) ⟨se_blind se_ZN_ok, va_recv hK hP (ci := 5) (q0 := 0) rfl rfl, se_pre se_ZN_ok hP hK hD hZ⟩ rfl rfl hl.1 rfl (lv_room (Nat.le_of_ble_eq_true rfl)) dX5_next_83 ⟨Nat.zero_le _, Nat.zero_le _⟩) hD hS hA (fun g3 H locs eg3 hP hD hS => ?_)
            refine lv_goto (tgt := 135) hx hb dX5_next_86 (by decide) ?_
            refine lv_aload_n hx hb dX5_next_135 rfl (lv_at hl 0 rfl) ?_
            refine lv_iconst (v := 1) hx hb dX5_next_136 (by decide) ?_
            refine va_put (D := D) (ci := 5) (v := .int 1) (ty := .boolean) (C := RX5) (T := TX5) (N := 12) hx hb hts (se_iw iwX5) tyX5 tyX5_ok nmX5 hown hK hP hD hS 0 rfl rfl 8 (by decide) (hts _ (List.mem_cons_of_mem _ qX5_f56)) (fun _ h9 => h9) rfl (by decide +kernel) rfl rfl (Nat.le_of_ble_eq_true rfl) dX5_next_137 (fun H locs hP hD hS => ?_)
            replace hP : va_P D se_cl (se_WS k h (se_u g3 0 8 1)) H := hP
            replace hD : va_D A (se_WS k h (se_u g3 0 8 1)) := hD
            refine lv_iconst (v := 1) hx hb dX5_next_140 (by decide) ?_
            exact se_riz hx hb hr rfl hlocks hK hP hD hS dX5_next_141 (by subst eg3; rw [F_S_next, if_pos c1, if_pos c2, if_pos c3, if_neg c4, if_neg c7])
      · refine lv_aload_n hx hb dX5_next_44 rfl (lv_at hl 0 rfl) ?_
        refine se_cvE (va_runV (C := RX5) (As := []) (rest := []) ⟨hx, hb, hml, hown, hts⟩ (c_S_makeAgain l D k h _ g) (se_kV 0 hts q_code_X5_makeAgain qX5_m182 q_ini_StreamEnd q_instanceMethod_X5_makeAgain q_sel_X5_makeAgain (by decide +kernel) ⟨Nat.le_of_ble_eq_true rfl, Nat.le_of_ble_eq_true rfl⟩ rfl rfl) ⟨se_blind se_ZN_ok, va_recv hK hP (ci := 5) (q0 := 0) rfl rfl, se_pre se_ZN_ok hP hK hD hZ⟩ rfl rfl hl.1 rfl (lv_room (Nat.le_of_ble_eq_true rfl)) dX5_next_45 ⟨Nat.zero_le _, Nat.zero_le _⟩) hD hS hA (fun g4 H locs eg4 hP hD hS => ?_)
        refine lv_goto (tgt := 135) hx hb dX5_next_48 (by decide) ?_
        refine lv_aload_n hx hb dX5_next_135 rfl (lv_at hl 0 rfl) ?_
        refine lv_iconst (v := 1) hx hb dX5_next_136 (by decide) ?_
        refine va_put (D := D) (ci := 5) (v := .int 1) (ty := .boolean) (C := RX5) (T := TX5) (N := 12) hx hb hts (se_iw iwX5) tyX5 tyX5_ok nmX5 hown hK hP hD hS 0 rfl rfl 8 (by decide) (hts _ (List.mem_cons_of_mem _ qX5_f56)) (fun _ h9 => h9) rfl (by decide +kernel) rfl rfl (Nat.le_of_ble_eq_true rfl) dX5_next_137 (fun H locs hP hD hS => ?_)
        replace hP : va_P D se_cl (se_WS k h (se_u g4 0 8 1)) H := hP
        replace hD : va_D A (se_WS k h (se_u g4 0 8 1)) := hD
        refine lv_iconst (v := 1) hx hb dX5_next_140 (by decide) ?_
        exact se_riz hx hb hr rfl hlocks hK hP hD hS dX5_next_141 (by subst eg4; rw [F_S_next, if_pos c1, if_pos c2, if_neg c3])
    · refine lv_aload_n hx hb dX5_next_27 rfl (lv_at hl 0 rfl) ?_
      refine se_cvE (va_runV (C := RX5) (As := []) (rest := []) ⟨hx, hb, hml, hown, hts⟩ (c_S_makeOpen l D k h _ g) (se_kV 0 hts q_code_X5_makeOpen qX5_m176 q_ini_StreamEnd q_instanceMethod_X5_makeOpen q_sel_X5_makeOpen (by decide +kernel) ⟨Nat.le_of_ble_eq_true rfl, Nat.le_of_ble_eq_true rfl⟩ rfl rfl) ⟨se_blind se_ZN_ok, va_recv hK hP (ci := 5) (q0 := 0) rfl rfl, se_pre se_ZN_ok hP hK hD hZ⟩ rfl rfl hl.1 rfl (lv_room (Nat.le_of_ble_eq_true rfl)) dX5_next_28 ⟨Nat.zero_le _, Nat.zero_le _⟩) hD hS hA (fun g5 H locs eg5 hP hD hS => ?_)
      refine lv_goto (tgt := 135) hx hb dX5_next_31 (by decide) ?_
      refine lv_aload_n hx hb dX5_next_135 rfl (lv_at hl 0 rfl) ?_
      refine lv_iconst (v := 1) hx hb dX5_next_136 (by decide) ?_
      refine va_put (D := D) (ci := 5) (v := .int 1) (ty := .boolean) (C := RX5) (T := TX5) (N := 12) hx hb hts (se_iw iwX5) tyX5 tyX5_ok nmX5 hown hK hP hD hS 0 rfl rfl 8 (by decide) (hts _ (List.mem_cons_of_mem _ qX5_f56)) (fun _ h9 => h9) rfl (by decide +kernel) rfl rfl (Nat.le_of_ble_eq_true rfl) dX5_next_137 (fun H locs hP hD hS => ?_)
      replace hP : va_P D se_cl (se_WS k h (se_u g5 0 8 1)) H := hP
      replace hD : va_D A (se_WS k h (se_u g5 0 8 1)) := hD
      refine lv_iconst (v := 1) hx hb dX5_next_140 (by decide) ?_
      exact se_riz hx hb hr rfl hlocks hK hP hD hS dX5_next_141 (by subst eg5; rw [F_S_next, if_pos c1, if_neg c2])
  · refine lv_aload_n hx hb dX5_next_10 rfl (lv_at hl 0 rfl) ?_
    refine se_cvE (va_runV (C := RX5) (As := []) (rest := []) ⟨hx, hb, hml, hown, hts⟩ (c_S_makeReset l D k h _ g) (se_kV 0 hts q_code_X5_makeReset qX5_m170 q_ini_StreamEnd q_instanceMethod_X5_makeReset q_sel_X5_makeReset (by decide +kernel) ⟨Nat.le_of_ble_eq_true rfl, Nat.le_of_ble_eq_true rfl⟩ rfl rfl) ⟨se_blind se_ZN_ok, va_recv hK hP (ci := 5) (q0 := 0) rfl rfl, se_pre se_ZN_ok hP hK hD hZ⟩ rfl rfl hl.1 rfl (lv_room (Nat.le_of_ble_eq_true rfl)) dX5_next_11 ⟨Nat.zero_le _, Nat.zero_le _⟩) hD hS hA (fun g6 H locs eg6 hP hD hS => ?_)
    refine lv_goto (tgt := 135) hx hb dX5_next_14 (by decide) ?_
    refine lv_aload_n hx hb dX5_next_135 rfl (lv_at hl 0 rfl) ?_
    refine lv_iconst (v := 1) hx hb dX5_next_136 (by decide) ?_
    refine va_put (D := D) (ci := 5) (v := .int 1) (ty := .boolean) (C := RX5) (T := TX5) (N := 12) hx hb hts (se_iw iwX5) tyX5 tyX5_ok nmX5 hown hK hP hD hS 0 rfl rfl 8 (by decide) (hts _ (List.mem_cons_of_mem _ qX5_f56)) (fun _ h9 => h9) rfl (by decide +kernel) rfl rfl (Nat.le_of_ble_eq_true rfl) dX5_next_137 (fun H locs hP hD hS => ?_)
    replace hP : va_P D se_cl (se_WS k h (se_u g6 0 8 1)) H := hP
    replace hD : va_D A (se_WS k h (se_u g6 0 8 1)) := hD
    refine lv_iconst (v := 1) hx hb dX5_next_140 (by decide) ?_
    exact se_riz hx hb hr rfl hlocks hK hP hD hS dX5_next_141 (by subst eg6; rw [F_S_next, if_neg c1])
set_option maxRecDepth 100000 in
set_option maxHeartbeats 4000000 in
theorem c_S_Segment_append_7 (l : Launch) (D : va_G) (k : Nat → ClassId) (h : Nat → Nat) (sz : Nat) (g : se_G) (p1 : Int32) : Met l yX3_append (se_w_X3_append) ({ frames := 0, cells := 0, slots := 0, locals := 0 }) (va_Pc [.ref (h 7), .int p1] (se_Pre D se_cl [(k 2, .byte), (k 4, .int), (k 8, .byte), (k 10, .byte)] (se_WS k h g) se_ZN sz)) (se_Qv D se_cl [(k 2, .byte), (k 4, .int), (k 8, .byte), (k 10, .byte)] (se_WS k h) (F_S_Segment_append_7 g p1) (va_A (se_WS k h g) sz)) 0 0 (va_A (se_WS k h g) sz) := by
  refine se_met (Qc := se_Qv D se_cl [(k 2, .byte), (k 4, .int), (k 8, .byte), (k 10, .byte)] (se_WS k h) (F_S_Segment_append_7 g p1)) (cc := cX3_append) (maxL := 2) (ret := none) (by decide) rfl (Nat.le_of_ble_eq_true rfl) ?_
  intro p e s m below meth c ls A hx hb hr hts hown hlocks hml hA hP hK hD hS hZ hl
  replace hl : lv_has ls 2 [(0, .ref (h 7)), (1, .int p1)] := hl
  have hF : F_S_Segment_append_7 g p1 = F_S_Segment_append_7 g p1 := rfl
  refine lv_aload_n hx hb dX3_append_0 rfl (lv_at hl 0 rfl) ?_
  refine va_get (D := D) (ci := 3) (v := .int (g 7 1)) (C := RX3) (T := TX3) (N := 7) hx hb hts (se_iw iwX3) hown hK hP 7 rfl rfl 1 (by decide) (hts _ (List.mem_cons_of_mem _ qX3_f31)) (fun _ h9 => h9) rfl dX3_append_1 ?_
  refine lv_if_lt (tgt := 39) hx hb dX3_append_4 (by decide) (fun c1 => ?_) (fun c1 => ?_)
  · exact se_rv hx hb hr hlocks hK hP hD hS dX3_append_39 (by rw [F_S_Segment_append_7, if_pos c1])
  · refine lv_aload_n hx hb dX3_append_7 rfl (lv_at hl 0 rfl) ?_
    refine va_get (D := D) (ci := 3) (v := .int (g 7 1)) (C := RX3) (T := TX3) (N := 7) hx hb hts (se_iw iwX3) hown hK hP 7 rfl rfl 1 (by decide) (hts _ (List.mem_cons_of_mem _ qX3_f31)) (fun _ h9 => h9) rfl dX3_append_8 ?_
    refine lv_aload_n hx hb dX3_append_11 rfl (lv_at hl 0 rfl) ?_
    refine va_get (D := D) (ci := 3) (v := .ref (h 8)) (C := RX3) (T := TX3) (N := 7) hx hb hts (se_iw iwX3) hown hK hP 7 rfl rfl 0 (by decide) (hts _ (List.mem_cons_of_mem _ qX3_f9)) (fun _ h9 => h9) rfl dX3_append_12 ?_
    refine va_alen hx hb hK hP 8 2 rfl rfl (v := 1460) rfl dX3_append_15 ?_
    refine lv_icmp_ge (tgt := 39) hx hb dX3_append_16 (by decide) (fun c2 => ?_) (fun c2 => ?_)
    · exact se_rv hx hb hr hlocks hK hP hD hS dX3_append_39 (by rw [F_S_Segment_append_7, if_neg c1, if_pos c2])
    · refine lv_aload_n hx hb dX3_append_19 rfl (lv_at hl 0 rfl) ?_
      refine va_get (D := D) (ci := 3) (v := .ref (h 8)) (C := RX3) (T := TX3) (N := 7) hx hb hts (se_iw iwX3) hown hK hP 7 rfl rfl 0 (by decide) (hts _ (List.mem_cons_of_mem _ qX3_f9)) (fun _ h9 => h9) rfl dX3_append_20 ?_
      refine lv_aload_n hx hb dX3_append_23 rfl (lv_at hl 0 rfl) ?_
      refine va_get (D := D) (ci := 3) (v := .int (g 7 1)) (C := RX3) (T := TX3) (N := 7) hx hb hts (se_iw iwX3) hown hK hP 7 rfl rfl 1 (by decide) (hts _ (List.mem_cons_of_mem _ qX3_f31)) (fun _ h9 => h9) rfl dX3_append_24 ?_
      refine lv_iload_n hx hb dX3_append_27 rfl (lv_at hl 1 rfl) ?_
      refine va_bast hx hb hK hP hD hS 8 2 rfl rfl (se_inN (N := 1460) (by decide) c1 c2) dX3_append_28 (fun H locs hP hD hS => ?_)
      replace hP : va_P D se_cl (se_WS k h (se_u g 8 (Int32.toNatClampNeg (g 7 1)) (vp_nar .byte p1))) H := hP
      replace hD : va_D A (se_WS k h (se_u g 8 (Int32.toNatClampNeg (g 7 1)) (vp_nar .byte p1))) := hD
      refine lv_aload_n hx hb dX3_append_29 rfl (lv_at hl 0 rfl) ?_
      refine lv_dup hx hb dX3_append_30 rfl ?_
      refine va_get (D := D) (ci := 3) (v := .int (g 7 1)) (C := RX3) (T := TX3) (N := 7) hx hb hts (se_iw iwX3) hown hK hP 7 rfl rfl 1 (by decide) (hts _ (List.mem_cons_of_mem _ qX3_f31)) (fun _ h9 => h9) rfl dX3_append_31 ?_
      refine lv_iconst (v := 1) hx hb dX3_append_34 (by decide) ?_
      refine lv_iadd hx hb dX3_append_35 ?_
      refine va_put (D := D) (ci := 3) (v := .int ((g 7 1) + 1)) (ty := .int) (C := RX3) (T := TX3) (N := 7) hx hb hts (se_iw iwX3) tyX3 tyX3_ok nmX3 hown hK hP hD hS 7 rfl rfl 1 (by decide) (hts _ (List.mem_cons_of_mem _ qX3_f31)) (fun _ h9 => h9) rfl (by decide +kernel) rfl rfl (Nat.le_of_ble_eq_true rfl) dX3_append_36 (fun H locs hP hD hS => ?_)
      replace hP : va_P D se_cl (se_WS k h (se_u (se_u g 8 (Int32.toNatClampNeg (g 7 1)) (vp_nar .byte p1)) 7 1 ((g 7 1) + 1))) H := hP
      replace hD : va_D A (se_WS k h (se_u (se_u g 8 (Int32.toNatClampNeg (g 7 1)) (vp_nar .byte p1)) 7 1 ((g 7 1) + 1))) := hD
      exact se_rv hx hb hr hlocks hK hP hD hS dX3_append_39 (by rw [F_S_Segment_append_7, if_neg c1, if_neg c2])
set_option maxRecDepth 100000 in
set_option maxHeartbeats 4000000 in
theorem c_S_isWidth (l : Launch) (D : va_G) (k : Nat → ClassId) (h : Nat → Nat) (sz : Nat) (g : se_G) (p0 : Int32) : Met l yX5_isWidth (se_w_X5_isWidth) ({ frames := 0, cells := 0, slots := 0, locals := 0 }) (va_Pc [.int p0] (se_Pre D se_cl [(k 2, .byte), (k 4, .int), (k 8, .byte), (k 10, .byte)] (se_WS k h g) se_ZN sz)) (se_Qp D se_cl [(k 2, .byte), (k 4, .int), (k 8, .byte), (k 10, .byte)] (se_WS k h) (F_S_isWidth p0) g (va_A (se_WS k h g) sz)) 0 0 (va_A (se_WS k h g) sz) := by
  refine se_met (Qc := se_Qp D se_cl [(k 2, .byte), (k 4, .int), (k 8, .byte), (k 10, .byte)] (se_WS k h) (F_S_isWidth p0) g) (cc := cX5_isWidth) (maxL := 1) (ret := (some .boolean)) (by decide) rfl (Nat.le_of_ble_eq_true rfl) ?_
  intro p e s m below meth c ls A hx hb hr hts hown hlocks hml hA hP hK hD hS hZ hl
  replace hl : lv_has ls 1 [(0, .int p0)] := hl
  have hF : F_S_isWidth p0 = F_S_isWidth p0 := rfl
  refine lv_iload_n hx hb dX5_isWidth_0 rfl (lv_at hl 0 rfl) ?_
  refine lv_if_lt (tgt := 15) hx hb dX5_isWidth_1 (by decide) (fun c1 => ?_) (fun c1 => ?_)
  · refine lv_iconst (v := 0) hx hb dX5_isWidth_15 (by decide) ?_
    exact se_rpz hx hb hr rfl hlocks hK hP hD hS dX5_isWidth_16 (by rw [F_S_isWidth, if_pos c1])
  · refine lv_iload_n hx hb dX5_isWidth_4 rfl (lv_at hl 0 rfl) ?_
    refine lv_ldcw hx hb hown (hts _ (List.mem_cons_of_mem _ qX5_k284)) dX5_isWidth_5 ?_
    refine lv_icmp_gt (tgt := 15) hx hb dX5_isWidth_8 (by decide) (fun c2 => ?_) (fun c2 => ?_)
    · refine lv_iconst (v := 0) hx hb dX5_isWidth_15 (by decide) ?_
      exact se_rpz hx hb hr rfl hlocks hK hP hD hS dX5_isWidth_16 (by rw [F_S_isWidth, if_neg c1, if_pos c2])
    · refine lv_iconst (v := 1) hx hb dX5_isWidth_11 (by decide) ?_
      refine lv_goto (tgt := 16) hx hb dX5_isWidth_12 (by decide) ?_
      exact se_rpz hx hb hr rfl hlocks hK hP hD hS dX5_isWidth_16 (by rw [F_S_isWidth, if_neg c1, if_neg c2])
set_option maxRecDepth 100000 in
set_option maxHeartbeats 4000000 in
theorem c_S_Segment_headIs_7 (l : Launch) (D : va_G) (k : Nat → ClassId) (h : Nat → Nat) (sz : Nat) (g : se_G) (p1 : Int32) (p2 : Int32) (p3 : Int32) (p4 : Int32) (p5 : Int32) : Met l yX3_headIs (se_w_X3_headIs) ({ frames := 0, cells := 0, slots := 0, locals := 0 }) (va_Pc [.ref (h 7), .int p1, .int p2, .int p3, .int p4, .int p5] (se_Pre D se_cl [(k 2, .byte), (k 4, .int), (k 8, .byte), (k 10, .byte)] (se_WS k h g) se_ZN sz)) (se_Qv D se_cl [(k 2, .byte), (k 4, .int), (k 8, .byte), (k 10, .byte)] (se_WS k h) (F_S_Segment_headIs_7 g p1 p2 p3 p4 p5) (va_A (se_WS k h g) sz)) 0 0 (va_A (se_WS k h g) sz) := by
  refine se_met (Qc := se_Qv D se_cl [(k 2, .byte), (k 4, .int), (k 8, .byte), (k 10, .byte)] (se_WS k h) (F_S_Segment_headIs_7 g p1 p2 p3 p4 p5)) (cc := cX3_headIs) (maxL := 6) (ret := none) (by decide) rfl (Nat.le_of_ble_eq_true rfl) ?_
  intro p e s m below meth c ls A hx hb hr hts hown hlocks hml hA hP hK hD hS hZ hl
  replace hl : lv_has ls 6 [(0, .ref (h 7)), (1, .int p1), (2, .int p2), (3, .int p3), (4, .int p4), (5, .int p5)] := hl
  have hF : F_S_Segment_headIs_7 g p1 p2 p3 p4 p5 = F_S_Segment_headIs_7 g p1 p2 p3 p4 p5 := rfl
  refine lv_aload_n hx hb dX3_headIs_0 rfl (lv_at hl 0 rfl) ?_
  refine lv_iload_n hx hb dX3_headIs_1 rfl (lv_at hl 1 rfl) ?_
  refine va_put (D := D) (ci := 3) (v := .int p1) (ty := .int) (C := RX3) (T := TX3) (N := 7) hx hb hts (se_iw iwX3) tyX3 tyX3_ok nmX3 hown hK hP hD hS 7 rfl rfl 2 (by decide) (hts _ (List.mem_cons_of_mem _ qX3_f15)) (fun _ h9 => h9) rfl (by decide +kernel) rfl rfl (Nat.le_of_ble_eq_true rfl) dX3_headIs_2 (fun H locs hP hD hS => ?_)
  replace hP : va_P D se_cl (se_WS k h (se_u g 7 2 p1)) H := hP
  replace hD : va_D A (se_WS k h (se_u g 7 2 p1)) := hD
  refine lv_aload_n hx hb dX3_headIs_5 rfl (lv_at hl 0 rfl) ?_
  refine lv_iload_n hx hb dX3_headIs_6 rfl (lv_at hl 2 rfl) ?_
  refine va_put (D := D) (ci := 3) (v := .int p2) (ty := .int) (C := RX3) (T := TX3) (N := 7) hx hb hts (se_iw iwX3) tyX3 tyX3_ok nmX3 hown hK hP hD hS 7 rfl rfl 3 (by decide) (hts _ (List.mem_cons_of_mem _ qX3_f19)) (fun _ h9 => h9) rfl (by decide +kernel) rfl rfl (Nat.le_of_ble_eq_true rfl) dX3_headIs_7 (fun H locs hP hD hS => ?_)
  replace hP : va_P D se_cl (se_WS k h (se_u (se_u g 7 2 p1) 7 3 p2)) H := hP
  replace hD : va_D A (se_WS k h (se_u (se_u g 7 2 p1) 7 3 p2)) := hD
  refine lv_aload_n hx hb dX3_headIs_10 rfl (lv_at hl 0 rfl) ?_
  refine lv_iload_n hx hb dX3_headIs_11 rfl (lv_at hl 3 rfl) ?_
  refine va_put (D := D) (ci := 3) (v := .int p3) (ty := .int) (C := RX3) (T := TX3) (N := 7) hx hb hts (se_iw iwX3) tyX3 tyX3_ok nmX3 hown hK hP hD hS 7 rfl rfl 4 (by decide) (hts _ (List.mem_cons_of_mem _ qX3_f22)) (fun _ h9 => h9) rfl (by decide +kernel) rfl rfl (Nat.le_of_ble_eq_true rfl) dX3_headIs_12 (fun H locs hP hD hS => ?_)
  replace hP : va_P D se_cl (se_WS k h (se_u (se_u (se_u g 7 2 p1) 7 3 p2) 7 4 p3)) H := hP
  replace hD : va_D A (se_WS k h (se_u (se_u (se_u g 7 2 p1) 7 3 p2) 7 4 p3)) := hD
  refine lv_aload_n hx hb dX3_headIs_15 rfl (lv_at hl 0 rfl) ?_
  refine lv_iload hx hb dX3_headIs_16 (lv_at hl 4 rfl) ?_
  refine va_put (D := D) (ci := 3) (v := .int p4) (ty := .int) (C := RX3) (T := TX3) (N := 7) hx hb hts (se_iw iwX3) tyX3 tyX3_ok nmX3 hown hK hP hD hS 7 rfl rfl 5 (by decide) (hts _ (List.mem_cons_of_mem _ qX3_f25)) (fun _ h9 => h9) rfl (by decide +kernel) rfl rfl (Nat.le_of_ble_eq_true rfl) dX3_headIs_18 (fun H locs hP hD hS => ?_)
  replace hP : va_P D se_cl (se_WS k h (se_u (se_u (se_u (se_u g 7 2 p1) 7 3 p2) 7 4 p3) 7 5 p4)) H := hP
  replace hD : va_D A (se_WS k h (se_u (se_u (se_u (se_u g 7 2 p1) 7 3 p2) 7 4 p3) 7 5 p4)) := hD
  refine lv_aload_n hx hb dX3_headIs_21 rfl (lv_at hl 0 rfl) ?_
  refine lv_iload hx hb dX3_headIs_22 (lv_at hl 5 rfl) ?_
  refine va_put (D := D) (ci := 3) (v := .int p5) (ty := .int) (C := RX3) (T := TX3) (N := 7) hx hb hts (se_iw iwX3) tyX3 tyX3_ok nmX3 hown hK hP hD hS 7 rfl rfl 6 (by decide) (hts _ (List.mem_cons_of_mem _ qX3_f28)) (fun _ h9 => h9) rfl (by decide +kernel) rfl rfl (Nat.le_of_ble_eq_true rfl) dX3_headIs_24 (fun H locs hP hD hS => ?_)
  replace hP : va_P D se_cl (se_WS k h (se_u (se_u (se_u (se_u (se_u g 7 2 p1) 7 3 p2) 7 4 p3) 7 5 p4) 7 6 p5)) H := hP
  replace hD : va_D A (se_WS k h (se_u (se_u (se_u (se_u (se_u g 7 2 p1) 7 3 p2) 7 4 p3) 7 5 p4) 7 6 p5)) := hD
  exact se_rv hx hb hr hlocks hK hP hD hS dX3_headIs_27 (by rw [F_S_Segment_headIs_7])
set_option maxRecDepth 100000 in
set_option maxHeartbeats 4000000 in
theorem c_S_Segment_has_7 (l : Launch) (D : va_G) (k : Nat → ClassId) (h : Nat → Nat) (sz : Nat) (g : se_G) (p1 : Int32) : Met l yX3_has (se_w_X3_has) ({ frames := 0, cells := 0, slots := 0, locals := 0 }) (va_Pc [.ref (h 7), .int p1] (se_Pre D se_cl [(k 2, .byte), (k 4, .int), (k 8, .byte), (k 10, .byte)] (se_WS k h g) se_ZN sz)) (se_Qp D se_cl [(k 2, .byte), (k 4, .int), (k 8, .byte), (k 10, .byte)] (se_WS k h) (F_S_Segment_has_7 g p1) g (va_A (se_WS k h g) sz)) 0 0 (va_A (se_WS k h g) sz) := by
  refine se_met (Qc := se_Qp D se_cl [(k 2, .byte), (k 4, .int), (k 8, .byte), (k 10, .byte)] (se_WS k h) (F_S_Segment_has_7 g p1) g) (cc := cX3_has) (maxL := 2) (ret := (some .boolean)) (by decide) rfl (Nat.le_of_ble_eq_true rfl) ?_
  intro p e s m below meth c ls A hx hb hr hts hown hlocks hml hA hP hK hD hS hZ hl
  replace hl : lv_has ls 2 [(0, .ref (h 7)), (1, .int p1)] := hl
  have hF : F_S_Segment_has_7 g p1 = F_S_Segment_has_7 g p1 := rfl
  refine lv_aload_n hx hb dX3_has_0 rfl (lv_at hl 0 rfl) ?_
  refine va_get (D := D) (ci := 3) (v := .int (g 7 2)) (C := RX3) (T := TX3) (N := 7) hx hb hts (se_iw iwX3) hown hK hP 7 rfl rfl 2 (by decide) (hts _ (List.mem_cons_of_mem _ qX3_f15)) (fun _ h9 => h9) rfl dX3_has_1 ?_
  refine lv_iload_n hx hb dX3_has_4 rfl (lv_at hl 1 rfl) ?_
  refine lv_iand hx hb dX3_has_5 ?_
  refine lv_if_eq (tgt := 13) hx hb dX3_has_6 (by decide) (fun c1 => ?_) (fun c1 => ?_)
  · refine lv_iconst (v := 0) hx hb dX3_has_13 (by decide) ?_
    exact se_rpz hx hb hr rfl hlocks hK hP hD hS dX3_has_14 (by rw [F_S_Segment_has_7, if_pos c1])
  · refine lv_iconst (v := 1) hx hb dX3_has_9 (by decide) ?_
    refine lv_goto (tgt := 14) hx hb dX3_has_10 (by decide) ?_
    exact se_rpz hx hb hr rfl hlocks hK hP hD hS dX3_has_14 (by rw [F_S_Segment_has_7, if_neg c1])
set_option maxRecDepth 100000 in
set_option maxHeartbeats 4000000 in
theorem c_S_Segment_size_7 (l : Launch) (D : va_G) (k : Nat → ClassId) (h : Nat → Nat) (sz : Nat) (g : se_G)  : Met l yX3_size (se_w_X3_size) ({ frames := 1, cells := 0, slots := 0, locals := 21 }) (va_Pc [.ref (h 7)] (se_Pre D se_cl [(k 2, .byte), (k 4, .int), (k 8, .byte), (k 10, .byte)] (se_WS k h g) se_ZN sz)) (se_Qp D se_cl [(k 2, .byte), (k 4, .int), (k 8, .byte), (k 10, .byte)] (se_WS k h) (F_S_Segment_size_7 g) g (va_A (se_WS k h g) sz)) 0 0 (va_A (se_WS k h g) sz) := by
  refine se_met (Qc := se_Qp D se_cl [(k 2, .byte), (k 4, .int), (k 8, .byte), (k 10, .byte)] (se_WS k h) (F_S_Segment_size_7 g) g) (cc := cX3_size) (maxL := 1) (ret := (some .int)) (by decide) rfl (Nat.le_of_ble_eq_true rfl) ?_
  intro p e s m below meth c ls A hx hb hr hts hown hlocks hml hA hP hK hD hS hZ hl
  replace hl : lv_has ls 1 [(0, .ref (h 7))] := hl
  have hF : F_S_Segment_size_7 g = F_S_Segment_size_7 g := rfl
  refine lv_aload_n hx hb dX3_size_0 rfl (lv_at hl 0 rfl) ?_
  refine va_get (D := D) (ci := 3) (v := .int (g 7 1)) (C := RX3) (T := TX3) (N := 7) hx hb hts (se_iw iwX3) hown hK hP 7 rfl rfl 1 (by decide) (hts _ (List.mem_cons_of_mem _ qX3_f31)) (fun _ h9 => h9) rfl dX3_size_1 ?_
  refine lv_aload_n hx hb dX3_size_4 rfl (lv_at hl 0 rfl) ?_
  refine lv_iconst (v := 1) hx hb dX3_size_5 (by decide) ?_
  refine se_cp (va_runV (C := RX3) (As := [.int 1]) (rest := [.int (g 7 1)]) ⟨hx, hb, hml, hown, hts⟩ (c_S_Segment_has_7 l D k h _ g 1) (se_kV 1 hts q_code_X3_has qX3_m34 q_ini_StreamEnd_Segment q_instanceMethod_X3_has q_sel_X3_has (by decide +kernel) ⟨Nat.le_of_ble_eq_true rfl, Nat.le_of_ble_eq_true rfl⟩ rfl rfl) ⟨se_blind se_ZN_ok, va_recv hK hP (ci := 3) (q0 := 7) rfl rfl, se_pre se_ZN_ok hP hK hD hZ⟩ rfl rfl hl.1 rfl (lv_room (Nat.le_of_ble_eq_true rfl)) dX3_size_6 ⟨Nat.zero_le _, Nat.zero_le _⟩) hD hS hA (fun H locs hP hD hS => ?_)
  refine se_join (v := ((if (F_S_Segment_has_7 g 1) = 0 then 0 else 1) : Int32)) (pcJ := 17) (restJ := [.int (g 7 1)]) (ls := ls) (fun T => ?_) ?_
  · refine lv_if_eq (tgt := 16) hx hb dX3_size_9 (by decide) (fun c2 => ?_) (fun c2 => ?_)
    · refine lv_iconst (v := 0) hx hb dX3_size_16 (by decide) ?_
      exact T _ (by rw [if_pos c2])
    · refine lv_iconst (v := 1) hx hb dX3_size_12 (by decide) ?_
      refine lv_goto (tgt := 17) hx hb dX3_size_13 (by decide) ?_
      exact T _ (by rw [if_neg c2])
  refine lv_iadd hx hb dX3_size_17 ?_
  refine lv_aload_n hx hb dX3_size_18 rfl (lv_at hl 0 rfl) ?_
  refine lv_iconst (v := 2) hx hb dX3_size_19 (by decide) ?_
  refine se_cp (va_runV (C := RX3) (As := [.int 2]) (rest := [.int ((g 7 1) + ((if (F_S_Segment_has_7 g 1) = 0 then 0 else 1) : Int32))]) ⟨hx, hb, hml, hown, hts⟩ (c_S_Segment_has_7 l D k h _ g 2) (se_kV 1 hts q_code_X3_has qX3_m34 q_ini_StreamEnd_Segment q_instanceMethod_X3_has q_sel_X3_has (by decide +kernel) ⟨Nat.le_of_ble_eq_true rfl, Nat.le_of_ble_eq_true rfl⟩ rfl rfl) ⟨se_blind se_ZN_ok, va_recv hK hP (ci := 3) (q0 := 7) rfl rfl, se_pre se_ZN_ok hP hK hD hZ⟩ rfl rfl hl.1 rfl (lv_room (Nat.le_of_ble_eq_true rfl)) dX3_size_20 ⟨Nat.zero_le _, Nat.zero_le _⟩) hD hS hA (fun H locs hP hD hS => ?_)
  refine se_join (v := ((if (F_S_Segment_has_7 g 2) = 0 then 0 else 1) : Int32)) (pcJ := 31) (restJ := [.int ((g 7 1) + ((if (F_S_Segment_has_7 g 1) = 0 then 0 else 1) : Int32))]) (ls := ls) (fun T => ?_) ?_
  · refine lv_if_eq (tgt := 30) hx hb dX3_size_23 (by decide) (fun c4 => ?_) (fun c4 => ?_)
    · refine lv_iconst (v := 0) hx hb dX3_size_30 (by decide) ?_
      exact T _ (by rw [if_pos c4])
    · refine lv_iconst (v := 1) hx hb dX3_size_26 (by decide) ?_
      refine lv_goto (tgt := 31) hx hb dX3_size_27 (by decide) ?_
      exact T _ (by rw [if_neg c4])
  refine lv_iadd hx hb dX3_size_31 ?_
  exact se_rp hx hb hr  hlocks hK hP hD hS dX3_size_32 (by rw [F_S_Segment_size_7])
end
section
/-! written by program (wip/gen) -/
set_option maxRecDepth 100000 in
set_option maxHeartbeats 4000000 in
theorem c_S_Incoming_fits (l : Launch) (D : va_G) (k : Nat → ClassId) (h : Nat → Nat) (sz : Nat) (g : se_G) (p1 : Int32) (p2 : Int32) : Met l yX1_fits (se_w_X1_fits) ({ frames := 1, cells := 0, slots := 0, locals := 20 }) (va_Pc [.ref (h 3), .int p1, .int p2] (se_Pre D se_cl [(k 2, .byte), (k 4, .int), (k 8, .byte), (k 10, .byte)] (se_WS k h g) se_ZN sz)) (se_Qp D se_cl [(k 2, .byte), (k 4, .int), (k 8, .byte), (k 10, .byte)] (se_WS k h) (F_S_Incoming_fits g p1 p2) g (va_A (se_WS k h g) sz)) 0 0 (va_A (se_WS k h g) sz) := by
  refine se_met (Qc := se_Qp D se_cl [(k 2, .byte), (k 4, .int), (k 8, .byte), (k 10, .byte)] (se_WS k h) (F_S_Incoming_fits g p1 p2) g) (cc := cX1_fits) (maxL := 4) (ret := (some .boolean)) (by decide) rfl (Nat.le_of_ble_eq_true rfl) ?_
  intro p e s m below meth c ls A hx hb hr hts hown hlocks hml hA hP hK hD hS hZ hl
  replace hl : lv_has ls 4 [(0, .ref (h 3)), (1, .int p1), (2, .int p2)] := hl
  have hF : F_S_Incoming_fits g p1 p2 = F_S_Incoming_fits g p1 p2 := rfl
  refine lv_iload_n hx hb dX1_fits_0 rfl (lv_at hl 1 rfl) ?_
  refine lv_aload_n hx hb dX1_fits_1 rfl (lv_at hl 0 rfl) ?_
  refine va_get (D := D) (ci := 1) (v := .int (g 3 2)) (C := RX1) (T := TX1) (N := 8) hx hb hts (se_iw iwX1) hown hK hP 3 rfl rfl 2 (by decide) (hts _ (List.mem_cons_of_mem _ qX1_f25)) (fun _ h9 => h9) rfl dX1_fits_2 ?_
  refine lv_isub hx hb dX1_fits_5 ?_
  refine lv_istore_n (lv' := [(3, .int (p1 - (g 3 2))), (0, .ref (h 3)), (1, .int p1), (2, .int p2)]) hx hb dX1_fits_6 rfl hl (by decide) rfl (fun ls hl => ?_)
  refine lv_iload_n hx hb dX1_fits_7 rfl (lv_at hl 3 rfl) ?_
  refine lv_if_ne (tgt := 33) hx hb dX1_fits_8 (by decide) (fun c1 => ?_) (fun c1 => ?_)
  · refine lv_aload_n hx hb dX1_fits_33 rfl (lv_at hl 1 rfl) ?_
    refine se_cp (va_runV (C := RX1) (As := []) (rest := []) ⟨hx, hb, hml, hown, hts⟩ (c_S_Incoming_room l D k h _ g) (se_kV 0 hts q_code_X1_room qX1_m44 q_ini_StreamEnd_Incoming q_instanceMethod_X1_room q_sel_X1_room (by decide +kernel) ⟨Nat.le_of_ble_eq_true rfl, Nat.le_of_ble_eq_true rfl⟩ rfl rfl) ⟨se_blind se_ZN_ok, va_recv hK hP (ci := 1) (q0 := 3) rfl rfl, se_pre se_ZN_ok hP hK hD hZ⟩ rfl rfl hl.1 rfl (lv_room (Nat.le_of_ble_eq_true rfl)) dX1_fits_34 ⟨Nat.zero_le _, Nat.zero_le _⟩) hD hS hA (fun H locs hP hD hS => ?_)
    refine lv_if_le (tgt := 58) hx hb dX1_fits_37 (by decide) (fun c2 => ?_) (fun c2 => ?_)
    · refine lv_iconst (v := 0) hx hb dX1_fits_58 (by decide) ?_
      exact se_rpz hx hb hr rfl hlocks hK hP hD hS dX1_fits_59 (by rw [F_S_Incoming_fits, if_neg c1, if_pos c2])
    · refine lv_iload_n hx hb dX1_fits_40 rfl (lv_at hl 0 rfl) ?_
      refine lv_iload_n hx hb dX1_fits_41 rfl (lv_at hl 3 rfl) ?_
      refine lv_ineg hx hb dX1_fits_42 ?_
      refine lv_icmp_le (tgt := 58) hx hb dX1_fits_43 (by decide) (fun c3 => ?_) (fun c3 => ?_)
      · refine lv_iconst (v := 0) hx hb dX1_fits_58 (by decide) ?_
        exact se_rpz hx hb hr rfl hlocks hK hP hD hS dX1_fits_59 (by rw [F_S_Incoming_fits, if_neg c1, if_neg c2, if_pos c3])
      · refine lv_iload_n hx hb dX1_fits_46 rfl (lv_at hl 0 rfl) ?_
        refine lv_aload_n hx hb dX1_fits_47 rfl (lv_at hl 1 rfl) ?_
        refine se_cp (va_runV (C := RX1) (As := []) (rest := [.int (p1 - (g 3 2))]) ⟨hx, hb, hml, hown, hts⟩ (c_S_Incoming_room l D k h _ g) (se_kV 0 hts q_code_X1_room qX1_m44 q_ini_StreamEnd_Incoming q_instanceMethod_X1_room q_sel_X1_room (by decide +kernel) ⟨Nat.le_of_ble_eq_true rfl, Nat.le_of_ble_eq_true rfl⟩ rfl rfl) ⟨se_blind se_ZN_ok, va_recv hK hP (ci := 1) (q0 := 3) rfl rfl, se_pre se_ZN_ok hP hK hD hZ⟩ rfl rfl hl.1 rfl (lv_room (Nat.le_of_ble_eq_true rfl)) dX1_fits_48 ⟨Nat.zero_le _, Nat.zero_le _⟩) hD hS hA (fun H locs hP hD hS => ?_)
        refine lv_icmp_ge (tgt := 58) hx hb dX1_fits_51 (by decide) (fun c4 => ?_) (fun c4 => ?_)
        · refine lv_iconst (v := 0) hx hb dX1_fits_58 (by decide) ?_
          exact se_rpz hx hb hr rfl hlocks hK hP hD hS dX1_fits_59 (by rw [F_S_Incoming_fits, if_neg c1, if_neg c2, if_neg c3, if_pos c4])
        · refine lv_iconst (v := 1) hx hb dX1_fits_54 (by decide) ?_
          refine lv_goto (tgt := 59) hx hb dX1_fits_55 (by decide) ?_
          exact se_rpz hx hb hr rfl hlocks hK hP hD hS dX1_fits_59 (by rw [F_S_Incoming_fits, if_neg c1, if_neg c2, if_neg c3, if_neg c4])
  · refine lv_iload_n hx hb dX1_fits_11 rfl (lv_at hl 0 rfl) ?_
    refine lv_if_eq (tgt := 27) hx hb dX1_fits_12 (by decide) (fun c5 => ?_) (fun c5 => ?_)
    · refine lv_iconst (v := 1) hx hb dX1_fits_27 (by decide) ?_
      refine lv_goto (tgt := 32) hx hb dX1_fits_28 (by decide) ?_
      exact se_rpz hx hb hr rfl hlocks hK hP hD hS dX1_fits_32 (by rw [F_S_Incoming_fits, if_pos c1, if_pos c5])
    · refine lv_iload_n hx hb dX1_fits_15 rfl (lv_at hl 0 rfl) ?_
      refine lv_if_le (tgt := 31) hx hb dX1_fits_16 (by decide) (fun c6 => ?_) (fun c6 => ?_)
      · refine lv_iconst (v := 0) hx hb dX1_fits_31 (by decide) ?_
        exact se_rpz hx hb hr rfl hlocks hK hP hD hS dX1_fits_32 (by rw [F_S_Incoming_fits, if_pos c1, if_neg c5, if_pos c6])
      · refine lv_iload_n hx hb dX1_fits_19 rfl (lv_at hl 0 rfl) ?_
        refine lv_aload_n hx hb dX1_fits_20 rfl (lv_at hl 1 rfl) ?_
        refine se_cp (va_runV (C := RX1) (As := []) (rest := [.int (p1 - (g 3 2))]) ⟨hx, hb, hml, hown, hts⟩ (c_S_Incoming_room l D k h _ g) (se_kV 0 hts q_code_X1_room qX1_m44 q_ini_StreamEnd_Incoming q_instanceMethod_X1_room q_sel_X1_room (by decide +kernel) ⟨Nat.le_of_ble_eq_true rfl, Nat.le_of_ble_eq_true rfl⟩ rfl rfl) ⟨se_blind se_ZN_ok, va_recv hK hP (ci := 1) (q0 := 3) rfl rfl, se_pre se_ZN_ok hP hK hD hZ⟩ rfl rfl hl.1 rfl (lv_room (Nat.le_of_ble_eq_true rfl)) dX1_fits_21 ⟨Nat.zero_le _, Nat.zero_le _⟩) hD hS hA (fun H locs hP hD hS => ?_)
        refine lv_icmp_ge (tgt := 31) hx hb dX1_fits_24 (by decide) (fun c7 => ?_) (fun c7 => ?_)
        · refine lv_iconst (v := 0) hx hb dX1_fits_31 (by decide) ?_
          exact se_rpz hx hb hr rfl hlocks hK hP hD hS dX1_fits_32 (by rw [F_S_Incoming_fits, if_pos c1, if_neg c5, if_neg c6, if_pos c7])
        · refine lv_iconst (v := 1) hx hb dX1_fits_27 (by decide) ?_
          refine lv_goto (tgt := 32) hx hb dX1_fits_28 (by decide) ?_
          exact se_rpz hx hb hr rfl hlocks hK hP hD hS dX1_fits_32 (by rw [F_S_Incoming_fits, if_pos c1, if_neg c5, if_neg c6, if_neg c7])
set_option maxRecDepth 100000 in
set_option maxHeartbeats 4000000 in
theorem c_S_isBefore (l : Launch) (D : va_G) (k : Nat → ClassId) (h : Nat → Nat) (sz : Nat) (g : se_G) (p0 : Int32) (p1 : Int32) : Met l yX5_isBefore (se_w_X5_isBefore) ({ frames := 0, cells := 0, slots := 0, locals := 0 }) (va_Pc [.int p0, .int p1] (se_Pre D se_cl [(k 2, .byte), (k 4, .int), (k 8, .byte), (k 10, .byte)] (se_WS k h g) se_ZN sz)) (se_Qp D se_cl [(k 2, .byte), (k 4, .int), (k 8, .byte), (k 10, .byte)] (se_WS k h) (F_S_isBefore p0 p1) g (va_A (se_WS k h g) sz)) 0 0 (va_A (se_WS k h g) sz) := by
  refine se_met (Qc := se_Qp D se_cl [(k 2, .byte), (k 4, .int), (k 8, .byte), (k 10, .byte)] (se_WS k h) (F_S_isBefore p0 p1) g) (cc := cX5_isBefore) (maxL := 2) (ret := (some .boolean)) (by decide) rfl (Nat.le_of_ble_eq_true rfl) ?_
  intro p e s m below meth c ls A hx hb hr hts hown hlocks hml hA hP hK hD hS hZ hl
  replace hl : lv_has ls 2 [(0, .int p0), (1, .int p1)] := hl
  have hF : F_S_isBefore p0 p1 = F_S_isBefore p0 p1 := rfl
  refine lv_iload_n hx hb dX5_isBefore_0 rfl (lv_at hl 1 rfl) ?_
  refine lv_iload_n hx hb dX5_isBefore_1 rfl (lv_at hl 0 rfl) ?_
  refine lv_isub hx hb dX5_isBefore_2 ?_
  refine lv_if_le (tgt := 10) hx hb dX5_isBefore_3 (by decide) (fun c1 => ?_) (fun c1 => ?_)
  · refine lv_iconst (v := 0) hx hb dX5_isBefore_10 (by decide) ?_
    exact se_rpz hx hb hr rfl hlocks hK hP hD hS dX5_isBefore_11 (by rw [F_S_isBefore, if_pos c1])
  · refine lv_iconst (v := 1) hx hb dX5_isBefore_6 (by decide) ?_
    refine lv_goto (tgt := 11) hx hb dX5_isBefore_7 (by decide) ?_
    exact se_rpz hx hb hr rfl hlocks hK hP hD hS dX5_isBefore_11 (by rw [F_S_isBefore, if_neg c1])
set_option maxRecDepth 100000 in
set_option maxHeartbeats 4000000 in
theorem c_S_isNotBehind (l : Launch) (D : va_G) (k : Nat → ClassId) (h : Nat → Nat) (sz : Nat) (g : se_G) (p0 : Int32) (p1 : Int32) : Met l yX5_isNotBehind (se_w_X5_isNotBehind) ({ frames := 0, cells := 0, slots := 0, locals := 0 }) (va_Pc [.int p0, .int p1] (se_Pre D se_cl [(k 2, .byte), (k 4, .int), (k 8, .byte), (k 10, .byte)] (se_WS k h g) se_ZN sz)) (se_Qp D se_cl [(k 2, .byte), (k 4, .int), (k 8, .byte), (k 10, .byte)] (se_WS k h) (F_S_isNotBehind p0 p1) g (va_A (se_WS k h g) sz)) 0 0 (va_A (se_WS k h g) sz) := by
  refine se_met (Qc := se_Qp D se_cl [(k 2, .byte), (k 4, .int), (k 8, .byte), (k 10, .byte)] (se_WS k h) (F_S_isNotBehind p0 p1) g) (cc := cX5_isNotBehind) (maxL := 2) (ret := (some .boolean)) (by decide) rfl (Nat.le_of_ble_eq_true rfl) ?_
  intro p e s m below meth c ls A hx hb hr hts hown hlocks hml hA hP hK hD hS hZ hl
  replace hl : lv_has ls 2 [(0, .int p0), (1, .int p1)] := hl
  have hF : F_S_isNotBehind p0 p1 = F_S_isNotBehind p0 p1 := rfl
  refine lv_iload_n hx hb dX5_isNotBehind_0 rfl (lv_at hl 1 rfl) ?_
  refine lv_iload_n hx hb dX5_isNotBehind_1 rfl (lv_at hl 0 rfl) ?_
  refine lv_isub hx hb dX5_isNotBehind_2 ?_
  refine lv_if_lt (tgt := 10) hx hb dX5_isNotBehind_3 (by decide) (fun c1 => ?_) (fun c1 => ?_)
  · refine lv_iconst (v := 0) hx hb dX5_isNotBehind_10 (by decide) ?_
    exact se_rpz hx hb hr rfl hlocks hK hP hD hS dX5_isNotBehind_11 (by rw [F_S_isNotBehind, if_pos c1])
  · refine lv_iconst (v := 1) hx hb dX5_isNotBehind_6 (by decide) ?_
    refine lv_goto (tgt := 11) hx hb dX5_isNotBehind_7 (by decide) ?_
    exact se_rpz hx hb hr rfl hlocks hK hP hD hS dX5_isNotBehind_11 (by rw [F_S_isNotBehind, if_neg c1])
set_option maxRecDepth 100000 in
set_option maxHeartbeats 4000000 in
theorem c_S_Outgoing_windowIsOlderThan (l : Launch) (D : va_G) (k : Nat → ClassId) (h : Nat → Nat) (sz : Nat) (g : se_G)  : Met l yX2_windowIsOlderThan (se_w_X2_windowIsOlderThan) ({ frames := 1, cells := 0, slots := 0, locals := 21 }) (va_Pc [.ref (h 1), .ref (h 7)] (se_Pre D se_cl [(k 2, .byte), (k 4, .int), (k 8, .byte), (k 10, .byte)] (se_WS k h g) se_ZN sz)) (se_Qp D se_cl [(k 2, .byte), (k 4, .int), (k 8, .byte), (k 10, .byte)] (se_WS k h) (F_S_Outgoing_windowIsOlderThan g) g (va_A (se_WS k h g) sz)) 0 0 (va_A (se_WS k h g) sz) := by
  refine se_met (Qc := se_Qp D se_cl [(k 2, .byte), (k 4, .int), (k 8, .byte), (k 10, .byte)] (se_WS k h) (F_S_Outgoing_windowIsOlderThan g) g) (cc := cX2_windowIsOlderThan) (maxL := 2) (ret := (some .boolean)) (by decide) rfl (Nat.le_of_ble_eq_true rfl) ?_
  intro p e s m below meth c ls A hx hb hr hts hown hlocks hml hA hP hK hD hS hZ hl
  replace hl : lv_has ls 2 [(0, .ref (h 1)), (1, .ref (h 7))] := hl
  have hF : F_S_Outgoing_windowIsOlderThan g = F_S_Outgoing_windowIsOlderThan g := rfl
  refine lv_aload_n hx hb dX2_windowIsOlderThan_0 rfl (lv_at hl 0 rfl) ?_
  refine va_get (D := D) (ci := 2) (v := .int (g 1 11)) (C := RX2) (T := TX2) (N := 13) hx hb hts (se_iw iwX2) hown hK hP 1 rfl rfl 11 (by decide) (hts _ (List.mem_cons_of_mem _ qX2_f84)) (fun _ h9 => h9) rfl dX2_windowIsOlderThan_1 ?_
  refine lv_aload_n hx hb dX2_windowIsOlderThan_4 rfl (lv_at hl 1 rfl) ?_
  refine va_getN (D := D) (ci := 3) (v := .int (g 7 3)) (C := RX3) (T := TX3) (N := 7) hx hb hts (se_iw iwX3) hown hK hP 7 rfl rfl 3 (by decide) (va_Nw.use rfl (hZ _ nX2_f90 rfl)) (fun _ h9 => h9) rfl dX2_windowIsOlderThan_5 ?_
  refine se_cp (va_runSN (As := [.int (g 1 11), .int (g 7 3)]) (rest := []) ⟨hx, hb, hml, hown, hts⟩ (c_S_isBefore l D k h _ g (g 1 11) (g 7 3)) (se_kSN 2 hts q_code_X5_isBefore (hZ _ nX2_m93 rfl) q_ini_StreamEnd q_static_X5_isBefore (by decide +kernel) ⟨Nat.le_of_ble_eq_true rfl, Nat.le_of_ble_eq_true rfl⟩ rfl rfl) ⟨se_blind se_ZN_ok, se_pre se_ZN_ok hP hK hD hZ⟩ rfl rfl hl.1 rfl (lv_room (Nat.le_of_ble_eq_true rfl)) dX2_windowIsOlderThan_8 ⟨Nat.zero_le _, Nat.zero_le _⟩) hD hS hA (fun H locs hP hD hS => ?_)
  refine lv_if_ne (tgt := 39) hx hb dX2_windowIsOlderThan_11 (by decide) (fun c1 => ?_) (fun c1 => ?_)
  · refine lv_iconst (v := 1) hx hb dX2_windowIsOlderThan_39 (by decide) ?_
    refine lv_goto (tgt := 44) hx hb dX2_windowIsOlderThan_40 (by decide) ?_
    exact se_rpz hx hb hr rfl hlocks hK hP hD hS dX2_windowIsOlderThan_44 (by rw [F_S_Outgoing_windowIsOlderThan, if_neg c1])
  · refine lv_aload_n hx hb dX2_windowIsOlderThan_14 rfl (lv_at hl 0 rfl) ?_
    refine va_get (D := D) (ci := 2) (v := .int (g 1 11)) (C := RX2) (T := TX2) (N := 13) hx hb hts (se_iw iwX2) hown hK hP 1 rfl rfl 11 (by decide) (hts _ (List.mem_cons_of_mem _ qX2_f84)) (fun _ h9 => h9) rfl dX2_windowIsOlderThan_15 ?_
    refine lv_aload_n hx hb dX2_windowIsOlderThan_18 rfl (lv_at hl 1 rfl) ?_
    refine va_getN (D := D) (ci := 3) (v := .int (g 7 3)) (C := RX3) (T := TX3) (N := 7) hx hb hts (se_iw iwX3) hown hK hP 7 rfl rfl 3 (by decide) (va_Nw.use rfl (hZ _ nX2_f90 rfl)) (fun _ h9 => h9) rfl dX2_windowIsOlderThan_19 ?_
    refine lv_icmp_ne (tgt := 43) hx hb dX2_windowIsOlderThan_22 (by decide) (fun c2 => ?_) (fun c2 => ?_)
    · refine lv_iconst (v := 0) hx hb dX2_windowIsOlderThan_43 (by decide) ?_
      exact se_rpz hx hb hr rfl hlocks hK hP hD hS dX2_windowIsOlderThan_44 (by rw [F_S_Outgoing_windowIsOlderThan, if_pos c1, if_neg c2])
    · refine lv_aload_n hx hb dX2_windowIsOlderThan_25 rfl (lv_at hl 0 rfl) ?_
      refine va_get (D := D) (ci := 2) (v := .int (g 1 12)) (C := RX2) (T := TX2) (N := 13) hx hb hts (se_iw iwX2) hown hK hP 1 rfl rfl 12 (by decide) (hts _ (List.mem_cons_of_mem _ qX2_f87)) (fun _ h9 => h9) rfl dX2_windowIsOlderThan_26 ?_
      refine lv_aload_n hx hb dX2_windowIsOlderThan_29 rfl (lv_at hl 1 rfl) ?_
      refine va_getN (D := D) (ci := 3) (v := .int (g 7 4)) (C := RX3) (T := TX3) (N := 7) hx hb hts (se_iw iwX3) hown hK hP 7 rfl rfl 4 (by decide) (va_Nw.use rfl (hZ _ nX2_f97 rfl)) (fun _ h9 => h9) rfl dX2_windowIsOlderThan_30 ?_
      refine se_cp (va_runSN (As := [.int (g 1 12), .int (g 7 4)]) (rest := []) ⟨hx, hb, hml, hown, hts⟩ (c_S_isNotBehind l D k h _ g (g 1 12) (g 7 4)) (se_kSN 2 hts q_code_X5_isNotBehind (hZ _ nX2_m100 rfl) q_ini_StreamEnd q_static_X5_isNotBehind (by decide +kernel) ⟨Nat.le_of_ble_eq_true rfl, Nat.le_of_ble_eq_true rfl⟩ rfl rfl) ⟨se_blind se_ZN_ok, se_pre se_ZN_ok hP hK hD hZ⟩ rfl rfl hl.1 rfl (lv_room (Nat.le_of_ble_eq_true rfl)) dX2_windowIsOlderThan_33 ⟨Nat.zero_le _, Nat.zero_le _⟩) hD hS hA (fun H locs hP hD hS => ?_)
      refine lv_if_eq (tgt := 43) hx hb dX2_windowIsOlderThan_36 (by decide) (fun c3 => ?_) (fun c3 => ?_)
      · refine lv_iconst (v := 0) hx hb dX2_windowIsOlderThan_43 (by decide) ?_
        exact se_rpz hx hb hr rfl hlocks hK hP hD hS dX2_windowIsOlderThan_44 (by rw [F_S_Outgoing_windowIsOlderThan, if_pos c1, if_pos c2, if_pos c3])
      · refine lv_iconst (v := 1) hx hb dX2_windowIsOlderThan_39 (by decide) ?_
        refine lv_goto (tgt := 44) hx hb dX2_windowIsOlderThan_40 (by decide) ?_
        exact se_rpz hx hb hr rfl hlocks hK hP hD hS dX2_windowIsOlderThan_44 (by rw [F_S_Outgoing_windowIsOlderThan, if_pos c1, if_pos c2, if_neg c3])
set_option maxRecDepth 100000 in
set_option maxHeartbeats 4000000 in
theorem c_S_takeWindow (l : Launch) (D : va_G) (k : Nat → ClassId) (h : Nat → Nat) (sz : Nat) (g : se_G)  : Met l yX5_takeWindow (se_w_X5_takeWindow) ({ frames := 2, cells := 0, slots := 0, locals := 42 }) (va_Pc [.ref (h 0)] (se_Pre D se_cl [(k 2, .byte), (k 4, .int), (k 8, .byte), (k 10, .byte)] (se_WS k h g) se_ZN sz)) (se_Qv D se_cl [(k 2, .byte), (k 4, .int), (k 8, .byte), (k 10, .byte)] (se_WS k h) (F_S_takeWindow g) (va_A (se_WS k h g) sz)) 0 0 (va_A (se_WS k h g) sz) := by
  refine se_met (Qc := se_Qv D se_cl [(k 2, .byte), (k 4, .int), (k 8, .byte), (k 10, .byte)] (se_WS k h) (F_S_takeWindow g)) (cc := cX5_takeWindow) (maxL := 2) (ret := none) (by decide) rfl (Nat.le_of_ble_eq_true rfl) ?_
  intro p e s m below meth c ls A hx hb hr hts hown hlocks hml hA hP hK hD hS hZ hl
  replace hl : lv_has ls 2 [(0, .ref (h 0))] := hl
  have J119 : ∀ (gj119 : se_G) (v1_119 : Int32) (H : Heap) (locs : List Loc) (ls : Array Slot), F_S_takeWindow_j119 gj119 v1_119 = F_S_takeWindow g → va_P D se_cl (se_WS k h gj119) H → va_D A (se_WS k h gj119) → va_S A s.heap H locs → lv_has ls 2 [(0, .ref (h 0)), (1, .int v1_119)] → W p l e ({ frames := 2, cells := 0, slots := 0, locals := 42 }) s m [.ref (h 0)].toArray below meth c H locs 0 0 (MQ below (se_Qv D se_cl [(k 2, .byte), (k 4, .int), (k 8, .byte), (k 10, .byte)] (se_WS k h) (F_S_takeWindow g) A) [.ref (h 0)].toArray s 0 0 A) (F0 m 119 ls []) := by
    intro gj119 v1_119 H locs ls hF hP hD hS hl
    refine lv_iload_n hx hb dX5_takeWindow_119 rfl (lv_at hl 1 rfl) ?_
    refine lv_if_ne (tgt := 133) hx hb dX5_takeWindow_120 (by decide) (fun c7 => ?_) (fun c7 => ?_)
    · refine lv_aload_n hx hb dX5_takeWindow_133 rfl (lv_at hl 0 rfl) ?_
      refine va_get (D := D) (ci := 5) (v := .ref (h 5)) (C := RX5) (T := TX5) (N := 12) hx hb hts (se_iw iwX5) hown hK hP 0 rfl rfl 4 (by decide) (hts _ (List.mem_cons_of_mem _ qX5_f35)) (fun _ h9 => h9) rfl dX5_takeWindow_134 ?_
      refine lv_iconst (v := 0) hx hb dX5_takeWindow_137 (by decide) ?_
      refine va_putN (D := D) (ci := 4) (v := .int 0) (ty := .int) (C := RX4) (T := TX4) (N := 11) hx hb hts (se_iw iwX4) tyX4 tyX4_ok nmX4 hown hK hP hD hS 5 rfl rfl 3 (by decide) (va_Nw.use rfl (hZ _ nX5_f270 rfl)) (fun _ h9 => h9) rfl (by decide +kernel) rfl rfl (Nat.le_of_ble_eq_true rfl) dX5_takeWindow_138 (fun H locs hP hD hS => ?_)
      replace hP : va_P D se_cl (se_WS k h (se_u gj119 5 3 0)) H := hP
      replace hD : va_D A (se_WS k h (se_u gj119 5 3 0)) := hD
      exact se_rv hx hb hr hlocks hK hP hD hS dX5_takeWindow_141 (by rw [← hF, F_S_takeWindow_j119, if_neg c7])
    · refine lv_aload_n hx hb dX5_takeWindow_123 rfl (lv_at hl 0 rfl) ?_
      refine va_get (D := D) (ci := 5) (v := .ref (h 7)) (C := RX5) (T := TX5) (N := 12) hx hb hts (se_iw iwX5) hown hK hP 0 rfl rfl 6 (by decide) (hts _ (List.mem_cons_of_mem _ qX5_f49)) (fun _ h9 => h9) rfl dX5_takeWindow_124 ?_
      refine va_getN (D := D) (ci := 3) (v := .int (gj119 7 5)) (C := RX3) (T := TX3) (N := 7) hx hb hts (se_iw iwX3) hown hK hP 7 rfl rfl 5 (by decide) (va_Nw.use rfl (hZ _ nX5_f226 rfl)) (fun _ h9 => h9) rfl dX5_takeWindow_127 ?_
      refine lv_if_ne (tgt := 141) hx hb dX5_takeWindow_130 (by decide) (fun c8 => ?_) (fun c8 => ?_)
      · exact se_rv hx hb hr hlocks hK hP hD hS dX5_takeWindow_141 (by rw [← hF, F_S_takeWindow_j119, if_pos c7, if_neg c8])
      · refine lv_aload_n hx hb dX5_takeWindow_133 rfl (lv_at hl 0 rfl) ?_
        refine va_get (D := D) (ci := 5) (v := .ref (h 5)) (C := RX5) (T := TX5) (N := 12) hx hb hts (se_iw iwX5) hown hK hP 0 rfl rfl 4 (by decide) (hts _ (List.mem_cons_of_mem _ qX5_f35)) (fun _ h9 => h9) rfl dX5_takeWindow_134 ?_
        refine lv_iconst (v := 0) hx hb dX5_takeWindow_137 (by decide) ?_
        refine va_putN (D := D) (ci := 4) (v := .int 0) (ty := .int) (C := RX4) (T := TX4) (N := 11) hx hb hts (se_iw iwX4) tyX4 tyX4_ok nmX4 hown hK hP hD hS 5 rfl rfl 3 (by decide) (va_Nw.use rfl (hZ _ nX5_f270 rfl)) (fun _ h9 => h9) rfl (by decide +kernel) rfl rfl (Nat.le_of_ble_eq_true rfl) dX5_takeWindow_138 (fun H locs hP hD hS => ?_)
        replace hP : va_P D se_cl (se_WS k h (se_u gj119 5 3 0)) H := hP
        replace hD : va_D A (se_WS k h (se_u gj119 5 3 0)) := hD
        exact se_rv hx hb hr hlocks hK hP hD hS dX5_takeWindow_141 (by rw [← hF, F_S_takeWindow_j119, if_pos c7, if_pos c8])
  have hF : F_S_takeWindow g = F_S_takeWindow g := rfl
  refine lv_aload_n hx hb dX5_takeWindow_0 rfl (lv_at hl 0 rfl) ?_
  refine va_get (D := D) (ci := 5) (v := .ref (h 7)) (C := RX5) (T := TX5) (N := 12) hx hb hts (se_iw iwX5) hown hK hP 0 rfl rfl 6 (by decide) (hts _ (List.mem_cons_of_mem _ qX5_f49)) (fun _ h9 => h9) rfl dX5_takeWindow_1 ?_
  refine va_getN (D := D) (ci := 3) (v := .int (g 7 4)) (C := RX3) (T := TX3) (N := 7) hx hb hts (se_iw iwX3) hown hK hP 7 rfl rfl 4 (by decide) (va_Nw.use rfl (hZ _ nX5_f223 rfl)) (fun _ h9 => h9) rfl dX5_takeWindow_4 ?_
  refine lv_aload_n hx hb dX5_takeWindow_7 rfl (lv_at hl 0 rfl) ?_
  refine va_get (D := D) (ci := 5) (v := .ref (h 1)) (C := RX5) (T := TX5) (N := 12) hx hb hts (se_iw iwX5) hown hK hP 0 rfl rfl 2 (by decide) (hts _ (List.mem_cons_of_mem _ qX5_f21)) (fun _ h9 => h9) rfl dX5_takeWindow_8 ?_
  refine va_getN (D := D) (ci := 2) (v := .int (g 1 5)) (C := RX2) (T := TX2) (N := 13) hx hb hts (se_iw iwX2) hown hK hP 1 rfl rfl 5 (by decide) (va_Nw.use rfl (hZ _ nX5_f259 rfl)) (fun _ h9 => h9) rfl dX5_takeWindow_11 ?_
  refine se_cp (va_runS (As := [.int (g 7 4), .int (g 1 5)]) (rest := []) ⟨hx, hb, hml, hown, hts⟩ (c_S_isBefore l D k h _ g (g 7 4) (g 1 5)) (se_kS 2 hts q_code_X5_isBefore qX5_m408 q_ini_StreamEnd q_static_X5_isBefore (by decide +kernel) ⟨Nat.le_of_ble_eq_true rfl, Nat.le_of_ble_eq_true rfl⟩ rfl rfl) ⟨se_blind se_ZN_ok, se_pre se_ZN_ok hP hK hD hZ⟩ rfl rfl hl.1 rfl (lv_room (Nat.le_of_ble_eq_true rfl)) dX5_takeWindow_14 ⟨Nat.zero_le _, Nat.zero_le _⟩) hD hS hA (fun H locs hP hD hS => ?_)
  refine lv_if_ne (tgt := 34) hx hb dX5_takeWindow_17 (by decide) (fun c1 => ?_) (fun c1 => ?_)
  · exact se_rv hx hb hr hlocks hK hP hD hS dX5_takeWindow_34 (by rw [F_S_takeWindow, if_neg c1])
  · refine lv_aload_n hx hb dX5_takeWindow_20 rfl (lv_at hl 0 rfl) ?_
    refine va_get (D := D) (ci := 5) (v := .ref (h 1)) (C := RX5) (T := TX5) (N := 12) hx hb hts (se_iw iwX5) hown hK hP 0 rfl rfl 2 (by decide) (hts _ (List.mem_cons_of_mem _ qX5_f21)) (fun _ h9 => h9) rfl dX5_takeWindow_21 ?_
    refine lv_aload_n hx hb dX5_takeWindow_24 rfl (lv_at hl 0 rfl) ?_
    refine va_get (D := D) (ci := 5) (v := .ref (h 7)) (C := RX5) (T := TX5) (N := 12) hx hb hts (se_iw iwX5) hown hK hP 0 rfl rfl 6 (by decide) (hts _ (List.mem_cons_of_mem _ qX5_f49)) (fun _ h9 => h9) rfl dX5_takeWindow_25 ?_
    refine se_cp (va_runVN (C := RX2) (As := [.ref (h 7)]) (rest := []) ⟨hx, hb, hml, hown, hts⟩ (c_S_Outgoing_windowIsOlderThan l D k h _ g) (se_kVN 1 hts q_code_X2_windowIsOlderThan (hZ _ nX5_m429 rfl) q_ini_StreamEnd_Outgoing q_instanceMethod_X2_windowIsOlderThan q_sel_X2_windowIsOlderThan (by decide +kernel) ⟨Nat.le_of_ble_eq_true rfl, Nat.le_of_ble_eq_true rfl⟩ rfl rfl) ⟨se_blind se_ZN_ok, va_recv hK hP (ci := 2) (q0 := 1) rfl rfl, se_pre se_ZN_ok hP hK hD hZ⟩ rfl rfl hl.1 rfl (lv_room (Nat.le_of_ble_eq_true rfl)) dX5_takeWindow_28 ⟨Nat.zero_le _, Nat.zero_le _⟩) hD hS hA (fun H locs hP hD hS => ?_)
    refine lv_if_ne (tgt := 35) hx hb dX5_takeWindow_31 (by decide) (fun c2 => ?_) (fun c2 => ?_)
    · refine lv_aload_n hx hb dX5_takeWindow_35 rfl (lv_at hl 0 rfl) ?_
      refine va_get (D := D) (ci := 5) (v := .ref (h 1)) (C := RX5) (T := TX5) (N := 12) hx hb hts (se_iw iwX5) hown hK hP 0 rfl rfl 2 (by decide) (hts _ (List.mem_cons_of_mem _ qX5_f21)) (fun _ h9 => h9) rfl dX5_takeWindow_36 ?_
      refine va_getN (D := D) (ci := 2) (v := .int (g 1 10)) (C := RX2) (T := TX2) (N := 13) hx hb hts (se_iw iwX2) hown hK hP 1 rfl rfl 10 (by decide) (va_Nw.use rfl (hZ _ nX5_f262 rfl)) (fun _ h9 => h9) rfl dX5_takeWindow_39 ?_
      refine se_join (v := ((if (g 1 10) = 0 then ((if (g 7 5) = 0 then 0 else 1) : Int32) else 0) : Int32)) (pcJ := 60) (restJ := []) (ls := ls) (fun T => ?_) ?_
      · refine lv_if_ne (tgt := 59) hx hb dX5_takeWindow_42 (by decide) (fun c4 => ?_) (fun c4 => ?_)
        · refine lv_iconst (v := 0) hx hb dX5_takeWindow_59 (by decide) ?_
          exact T _ (by rw [if_neg c4])
        · refine lv_aload_n hx hb dX5_takeWindow_45 rfl (lv_at hl 0 rfl) ?_
          refine va_get (D := D) (ci := 5) (v := .ref (h 7)) (C := RX5) (T := TX5) (N := 12) hx hb hts (se_iw iwX5) hown hK hP 0 rfl rfl 6 (by decide) (hts _ (List.mem_cons_of_mem _ qX5_f49)) (fun _ h9 => h9) rfl dX5_takeWindow_46 ?_
          refine va_getN (D := D) (ci := 3) (v := .int (g 7 5)) (C := RX3) (T := TX3) (N := 7) hx hb hts (se_iw iwX3) hown hK hP 7 rfl rfl 5 (by decide) (va_Nw.use rfl (hZ _ nX5_f226 rfl)) (fun _ h9 => h9) rfl dX5_takeWindow_49 ?_
          refine lv_if_eq (tgt := 59) hx hb dX5_takeWindow_52 (by decide) (fun c5 => ?_) (fun c5 => ?_)
          · refine lv_iconst (v := 0) hx hb dX5_takeWindow_59 (by decide) ?_
            exact T _ (by rw [if_pos c4, if_pos c5])
          · refine lv_iconst (v := 1) hx hb dX5_takeWindow_55 (by decide) ?_
            refine lv_goto (tgt := 60) hx hb dX5_takeWindow_56 (by decide) ?_
            exact T _ (by rw [if_pos c4, if_neg c5])
      refine lv_istore_n (lv' := [(1, .int ((if (g 1 10) = 0 then ((if (g 7 5) = 0 then 0 else 1) : Int32) else 0) : Int32)), (0, .ref (h 0))]) hx hb dX5_takeWindow_60 rfl hl (by decide) rfl (fun ls hl => ?_)
      refine lv_aload_n hx hb dX5_takeWindow_61 rfl (lv_at hl 1 rfl) ?_
      refine va_get (D := D) (ci := 5) (v := .ref (h 1)) (C := RX5) (T := TX5) (N := 12) hx hb hts (se_iw iwX5) hown hK hP 0 rfl rfl 2 (by decide) (hts _ (List.mem_cons_of_mem _ qX5_f21)) (fun _ h9 => h9) rfl dX5_takeWindow_62 ?_
      refine lv_aload_n hx hb dX5_takeWindow_65 rfl (lv_at hl 1 rfl) ?_
      refine va_get (D := D) (ci := 5) (v := .ref (h 7)) (C := RX5) (T := TX5) (N := 12) hx hb hts (se_iw iwX5) hown hK hP 0 rfl rfl 6 (by decide) (hts _ (List.mem_cons_of_mem _ qX5_f49)) (fun _ h9 => h9) rfl dX5_takeWindow_66 ?_
      refine va_getN (D := D) (ci := 3) (v := .int (g 7 5)) (C := RX3) (T := TX3) (N := 7) hx hb hts (se_iw iwX3) hown hK hP 7 rfl rfl 5 (by decide) (va_Nw.use rfl (hZ _ nX5_f226 rfl)) (fun _ h9 => h9) rfl dX5_takeWindow_69 ?_
      refine lv_aload_n hx hb dX5_takeWindow_72 rfl (lv_at hl 1 rfl) ?_
      refine va_get (D := D) (ci := 5) (v := .ref (h 7)) (C := RX5) (T := TX5) (N := 12) hx hb hts (se_iw iwX5) hown hK hP 0 rfl rfl 6 (by decide) (hts _ (List.mem_cons_of_mem _ qX5_f49)) (fun _ h9 => h9) rfl dX5_takeWindow_73 ?_
      refine va_getN (D := D) (ci := 3) (v := .int (g 7 3)) (C := RX3) (T := TX3) (N := 7) hx hb hts (se_iw iwX3) hown hK hP 7 rfl rfl 3 (by decide) (va_Nw.use rfl (hZ _ nX5_f220 rfl)) (fun _ h9 => h9) rfl dX5_takeWindow_76 ?_
      refine lv_aload_n hx hb dX5_takeWindow_79 rfl (lv_at hl 1 rfl) ?_
      refine va_get (D := D) (ci := 5) (v := .ref (h 7)) (C := RX5) (T := TX5) (N := 12) hx hb hts (se_iw iwX5) hown hK hP 0 rfl rfl 6 (by decide) (hts _ (List.mem_cons_of_mem _ qX5_f49)) (fun _ h9 => h9) rfl dX5_takeWindow_80 ?_
      refine va_getN (D := D) (ci := 3) (v := .int (g 7 4)) (C := RX3) (T := TX3) (N := 7) hx hb hts (se_iw iwX3) hown hK hP 7 rfl rfl 4 (by decide) (va_Nw.use rfl (hZ _ nX5_f223 rfl)) (fun _ h9 => h9) rfl dX5_takeWindow_83 ?_
      refine se_cvE (va_runVN (C := RX2) (As := [.int (g 7 5), .int (g 7 3), .int (g 7 4)]) (rest := []) ⟨hx, hb, hml, hown, hts⟩ (c_S_Outgoing_windowIs l D k h _ g (g 7 5) (g 7 3) (g 7 4)) (se_kVN 3 hts q_code_X2_windowIs (hZ _ nX5_m405 rfl) q_ini_StreamEnd_Outgoing q_instanceMethod_X2_windowIs q_sel_X2_windowIs (by decide +kernel) ⟨Nat.le_of_ble_eq_true rfl, Nat.le_of_ble_eq_true rfl⟩ rfl rfl) ⟨se_blind se_ZN_ok, va_recv hK hP (ci := 2) (q0 := 1) rfl rfl, se_pre se_ZN_ok hP hK hD hZ⟩ rfl rfl hl.1 rfl (lv_room (Nat.le_of_ble_eq_true rfl)) dX5_takeWindow_86 ⟨Nat.zero_le _, Nat.zero_le _⟩) hD hS hA (fun g1 H locs eg1 hP hD hS => ?_)
      replace hF : (F_S_takeWindow_k1 g (F_S_Outgoing_windowIs g (g 7 5) (g 7 3) (g 7 4))) = F_S_takeWindow g := by rw [F_S_takeWindow, if_pos c1, if_neg c2]
      rw [← eg1] at hF
      replace hF : F_S_takeWindow_k1 g g1 = F_S_takeWindow g := hF
      refine lv_iload_n hx hb dX5_takeWindow_89 rfl (lv_at hl 0 rfl) ?_
      refine lv_if_eq (tgt := 119) hx hb dX5_takeWindow_90 (by decide) (fun c6 => ?_) (fun c6 => ?_)
      · exact J119 g1 ((if (g 1 10) = 0 then ((if (g 7 5) = 0 then 0 else 1) : Int32) else 0) : Int32) _ _ ls (by rw [← hF, F_S_takeWindow_k1, if_pos c6]) hP hD hS (lv_sub hl [1, 0] rfl)
      · refine lv_aload_n hx hb dX5_takeWindow_93 rfl (lv_at hl 1 rfl) ?_
        refine va_get (D := D) (ci := 5) (v := .ref (h 6)) (C := RX5) (T := TX5) (N := 12) hx hb hts (se_iw iwX5) hown hK hP 0 rfl rfl 5 (by decide) (hts _ (List.mem_cons_of_mem _ qX5_f42)) (fun _ h9 => h9) rfl dX5_takeWindow_94 ?_
        refine lv_iconst (v := 0) hx hb dX5_takeWindow_97 (by decide) ?_
        refine va_putN (D := D) (ci := 0) (v := .int 0) (ty := .boolean) (C := RX0) (T := TX0) (N := 9) hx hb hts (se_iw iwX0) tyX0 tyX0_ok nmX0 hown hK hP hD hS 6 rfl rfl 7 (by decide) (va_Nw.use rfl (hZ _ nX5_f200 rfl)) (fun _ h9 => h9) rfl (by decide +kernel) rfl rfl (Nat.le_of_ble_eq_true rfl) dX5_takeWindow_98 (fun H locs hP hD hS => ?_)
        replace hP : va_P D se_cl (se_WS k h (se_u g1 6 7 0)) H := hP
        replace hD : va_D A (se_WS k h (se_u g1 6 7 0)) := hD
        refine lv_aload_n hx hb dX5_takeWindow_101 rfl (lv_at hl 1 rfl) ?_
        refine va_get (D := D) (ci := 5) (v := .ref (h 1)) (C := RX5) (T := TX5) (N := 12) hx hb hts (se_iw iwX5) hown hK hP 0 rfl rfl 2 (by decide) (hts _ (List.mem_cons_of_mem _ qX5_f21)) (fun _ h9 => h9) rfl dX5_takeWindow_102 ?_
        refine se_cp (va_runVN (C := RX2) (As := []) (rest := []) ⟨hx, hb, hml, hown, hts⟩ (c_S_Outgoing_hasUnthanked l D k h _ (se_u g1 6 7 0)) (se_kVN 0 hts q_code_X2_hasUnthanked (hZ _ nX5_m317 rfl) q_ini_StreamEnd_Outgoing q_instanceMethod_X2_hasUnthanked q_sel_X2_hasUnthanked (by decide +kernel) ⟨Nat.le_of_ble_eq_true rfl, Nat.le_of_ble_eq_true rfl⟩ rfl rfl) ⟨se_blind se_ZN_ok, va_recv hK hP (ci := 2) (q0 := 1) rfl rfl, se_pre se_ZN_ok hP hK hD hZ⟩ rfl rfl hl.1 rfl (lv_room (Nat.le_of_ble_eq_true rfl)) dX5_takeWindow_105 ⟨Nat.zero_le _, Nat.zero_le _⟩) hD hS hA (fun H locs hP hD hS => ?_)
        refine lv_if_ne (tgt := 119) hx hb dX5_takeWindow_108 (by decide) (fun c9 => ?_) (fun c9 => ?_)
        · exact J119 (se_u g1 6 7 0) ((if (g 1 10) = 0 then ((if (g 7 5) = 0 then 0 else 1) : Int32) else 0) : Int32) _ _ ls (by rw [← hF, F_S_takeWindow_k1, if_neg c6, if_neg c9]) hP hD hS (lv_sub hl [1, 0] rfl)
        · refine lv_aload_n hx hb dX5_takeWindow_111 rfl (lv_at hl 1 rfl) ?_
          refine va_get (D := D) (ci := 5) (v := .ref (h 5)) (C := RX5) (T := TX5) (N := 12) hx hb hts (se_iw iwX5) hown hK hP 0 rfl rfl 4 (by decide) (hts _ (List.mem_cons_of_mem _ qX5_f35)) (fun _ h9 => h9) rfl dX5_takeWindow_112 ?_
          refine lv_iconst (v := 0) hx hb dX5_takeWindow_115 (by decide) ?_
          refine va_putN (D := D) (ci := 4) (v := .int 0) (ty := .boolean) (C := RX4) (T := TX4) (N := 11) hx hb hts (se_iw iwX4) tyX4 tyX4_ok nmX4 hown hK hP hD hS 5 rfl rfl 1 (by decide) (va_Nw.use rfl (hZ _ nX5_f155 rfl)) (fun _ h9 => h9) rfl (by decide +kernel) rfl rfl (Nat.le_of_ble_eq_true rfl) dX5_takeWindow_116 (fun H locs hP hD hS => ?_)
          replace hP : va_P D se_cl (se_WS k h (se_u (se_u g1 6 7 0) 5 1 0)) H := hP
          replace hD : va_D A (se_WS k h (se_u (se_u g1 6 7 0) 5 1 0)) := hD
          exact J119 (se_u (se_u g1 6 7 0) 5 1 0) ((if (g 1 10) = 0 then ((if (g 7 5) = 0 then 0 else 1) : Int32) else 0) : Int32) _ _ ls (by rw [← hF, F_S_takeWindow_k1, if_neg c6, if_pos c9]) hP hD hS (lv_sub hl [1, 0] rfl)
    · exact se_rv hx hb hr hlocks hK hP hD hS dX5_takeWindow_34 (by rw [F_S_takeWindow, if_pos c1, if_pos c2])
set_option maxRecDepth 100000 in
set_option maxHeartbeats 4000000 in
theorem c_S_Outgoing_lastIsThanked (l : Launch) (D : va_G) (k : Nat → ClassId) (h : Nat → Nat) (sz : Nat) (g : se_G)  : Met l yX2_lastIsThanked (se_w_X2_lastIsThanked) ({ frames := 1, cells := 0, slots := 0, locals := 20 }) (va_Pc [.ref (h 1)] (se_Pre D se_cl [(k 2, .byte), (k 4, .int), (k 8, .byte), (k 10, .byte)] (se_WS k h g) se_ZN sz)) (se_Qp D se_cl [(k 2, .byte), (k 4, .int), (k 8, .byte), (k 10, .byte)] (se_WS k h) (F_S_Outgoing_lastIsThanked g) g (va_A (se_WS k h g) sz)) 0 0 (va_A (se_WS k h g) sz) := by
  refine se_met (Qc := se_Qp D se_cl [(k 2, .byte), (k 4, .int), (k 8, .byte), (k 10, .byte)] (se_WS k h) (F_S_Outgoing_lastIsThanked g) g) (cc := cX2_lastIsThanked) (maxL := 1) (ret := (some .boolean)) (by decide) rfl (Nat.le_of_ble_eq_true rfl) ?_
  intro p e s m below meth c ls A hx hb hr hts hown hlocks hml hA hP hK hD hS hZ hl
  replace hl : lv_has ls 1 [(0, .ref (h 1))] := hl
  have hF : F_S_Outgoing_lastIsThanked g = F_S_Outgoing_lastIsThanked g := rfl
  refine lv_aload_n hx hb dX2_lastIsThanked_0 rfl (lv_at hl 0 rfl) ?_
  refine va_get (D := D) (ci := 2) (v := .int (g 1 8)) (C := RX2) (T := TX2) (N := 13) hx hb hts (se_iw iwX2) hown hK hP 1 rfl rfl 8 (by decide) (hts _ (List.mem_cons_of_mem _ qX2_f41)) (fun _ h9 => h9) rfl dX2_lastIsThanked_1 ?_
  refine lv_if_eq (tgt := 18) hx hb dX2_lastIsThanked_4 (by decide) (fun c1 => ?_) (fun c1 => ?_)
  · refine lv_iconst (v := 0) hx hb dX2_lastIsThanked_18 (by decide) ?_
    exact se_rpz hx hb hr rfl hlocks hK hP hD hS dX2_lastIsThanked_19 (by rw [F_S_Outgoing_lastIsThanked, if_pos c1])
  · refine lv_aload_n hx hb dX2_lastIsThanked_7 rfl (lv_at hl 0 rfl) ?_
    refine se_cp (va_runV (C := RX2) (As := []) (rest := []) ⟨hx, hb, hml, hown, hts⟩ (c_S_Outgoing_hasUnthanked l D k h _ g) (se_kV 0 hts q_code_X2_hasUnthanked qX2_m52 q_ini_StreamEnd_Outgoing q_instanceMethod_X2_hasUnthanked q_sel_X2_hasUnthanked (by decide +kernel) ⟨Nat.le_of_ble_eq_true rfl, Nat.le_of_ble_eq_true rfl⟩ rfl rfl) ⟨se_blind se_ZN_ok, va_recv hK hP (ci := 2) (q0 := 1) rfl rfl, se_pre se_ZN_ok hP hK hD hZ⟩ rfl rfl hl.1 rfl (lv_room (Nat.le_of_ble_eq_true rfl)) dX2_lastIsThanked_8 ⟨Nat.zero_le _, Nat.zero_le _⟩) hD hS hA (fun H locs hP hD hS => ?_)
    refine lv_if_ne (tgt := 18) hx hb dX2_lastIsThanked_11 (by decide) (fun c2 => ?_) (fun c2 => ?_)
    · refine lv_iconst (v := 0) hx hb dX2_lastIsThanked_18 (by decide) ?_
      exact se_rpz hx hb hr rfl hlocks hK hP hD hS dX2_lastIsThanked_19 (by rw [F_S_Outgoing_lastIsThanked, if_neg c1, if_neg c2])
    · refine lv_iconst (v := 1) hx hb dX2_lastIsThanked_14 (by decide) ?_
      refine lv_goto (tgt := 19) hx hb dX2_lastIsThanked_15 (by decide) ?_
      exact se_rpz hx hb hr rfl hlocks hK hP hD hS dX2_lastIsThanked_19 (by rw [F_S_Outgoing_lastIsThanked, if_neg c1, if_pos c2])
set_option maxRecDepth 100000 in
set_option maxHeartbeats 4000000 in
theorem c_S_Incoming_store (l : Launch) (D : va_G) (k : Nat → ClassId) (h : Nat → Nat) (sz : Nat) (g : se_G)  (hI : (g 7 1).toInt ≤ 1460) : Met l yX1_store (se_w_X1_store) ({ frames := 1, cells := 0, slots := 0, locals := 21 }) (va_Pc [.ref (h 3), .ref (h 7)] (se_Pre D se_cl [(k 2, .byte), (k 4, .int), (k 8, .byte), (k 10, .byte)] (se_WS k h g) se_ZN sz)) (se_Qv D se_cl [(k 2, .byte), (k 4, .int), (k 8, .byte), (k 10, .byte)] (se_WS k h) (F_S_Incoming_store g) (va_A (se_WS k h g) sz)) 0 0 (va_A (se_WS k h g) sz) := by
  refine se_met (Qc := se_Qv D se_cl [(k 2, .byte), (k 4, .int), (k 8, .byte), (k 10, .byte)] (se_WS k h) (F_S_Incoming_store g)) (cc := cX1_store) (maxL := 7) (ret := none) (by decide) rfl (Nat.le_of_ble_eq_true rfl) ?_
  intro p e s m below meth c ls A hx hb hr hts hown hlocks hml hA hP hK hD hS hZ hl
  replace hl : lv_has ls 7 [(0, .ref (h 3)), (1, .ref (h 7))] := hl
  have L35 : ∀ (n : Nat) (gj35 : se_G) (v4_35 : Int32) (v5_35 : Int32) (H : Heap) (locs : List Loc) (ls : Array Slot), (0 ≤ (v5_35).toInt ∧ (v4_35).toInt ≤ (1460 : Int32).toInt) → ((v4_35).toInt - (v5_35).toInt).toNat < n → F_S_Incoming_store_j35 n gj35 v4_35 v5_35 = F_S_Incoming_store g → va_P D se_cl (se_WS k h gj35) H → va_D A (se_WS k h gj35) → va_S A s.heap H locs → lv_has ls 7 [(0, .ref (h 3)), (1, .ref (h 7)), (4, .int v4_35), (5, .int v5_35)] → W p l e ({ frames := 1, cells := 0, slots := 0, locals := 21 }) s m [.ref (h 3), .ref (h 7)].toArray below meth c H locs 0 0 (MQ below (se_Qv D se_cl [(k 2, .byte), (k 4, .int), (k 8, .byte), (k 10, .byte)] (se_WS k h) (F_S_Incoming_store g) A) [.ref (h 3), .ref (h 7)].toArray s 0 0 A) (F0 m 35 ls []) := by
    intro n
    induction n with
    | zero => intro gj35 v4_35 v5_35 H locs ls hI hM; exact absurd hM (Nat.not_lt_zero _)
    | succ n ih =>
      intro gj35 v4_35 v5_35 H locs ls hI hM hF hP hD hS hl
      refine lv_iload hx hb dX1_store_35 (lv_at hl 3 rfl) ?_
      refine lv_iload hx hb dX1_store_37 (lv_at hl 2 rfl) ?_
      refine lv_icmp_ge (tgt := 90) hx hb dX1_store_39 (by decide) (fun c1 => ?_) (fun c1 => ?_)
      · exact se_rv hx hb hr hlocks hK hP hD hS dX1_store_90 (by rw [← hF, F_S_Incoming_store_j35, if_pos c1])
      · refine lv_aload_n hx hb dX1_store_42 rfl (lv_at hl 1 rfl) ?_
        refine va_getN (D := D) (ci := 3) (v := .int (gj35 7 3)) (C := RX3) (T := TX3) (N := 7) hx hb hts (se_iw iwX3) hown hK hP 7 rfl rfl 3 (by decide) (va_Nw.use rfl (hZ _ nX1_f48 rfl)) (fun _ h9 => h9) rfl dX1_store_43 ?_
        refine lv_iload hx hb dX1_store_46 (lv_at hl 3 rfl) ?_
        refine lv_iadd hx hb dX1_store_48 ?_
        refine lv_sipush (v := 2047) hx hb dX1_store_49 (by decide) ?_
        refine lv_iand hx hb dX1_store_52 ?_
        refine lv_istore (lv' := [(6, .int (((gj35 7 3) + v5_35) &&& 2047)), (0, .ref (h 3)), (1, .ref (h 7)), (4, .int v4_35), (5, .int v5_35)]) hx hb dX1_store_53 hl (by decide) rfl (fun ls hl => ?_)
        refine lv_aload_n hx hb dX1_store_55 rfl (lv_at hl 1 rfl) ?_
        refine va_get (D := D) (ci := 1) (v := .ref (h 4)) (C := RX1) (T := TX1) (N := 8) hx hb hts (se_iw iwX1) hown hK hP 3 rfl rfl 0 (by decide) (hts _ (List.mem_cons_of_mem _ qX1_f9)) (fun _ h9 => h9) rfl dX1_store_56 ?_
        refine lv_iload hx hb dX1_store_59 (lv_at hl 0 rfl) ?_
        refine va_iald hx hb hK hP 4 1 rfl rfl (pk_andIn _ 11 (by decide) (by decide)) dX1_store_61 ?_
        refine lv_iconst (v := (-1)) hx hb dX1_store_62 (by decide) ?_
        refine lv_icmp_ne (tgt := 84) hx hb dX1_store_63 (by decide) (fun c2 => ?_) (fun c2 => ?_)
        · refine lv_iinc (v := (v5_35 + 1)) (lv' := [(5, .int (v5_35 + 1)), (6, .int (((gj35 7 3) + v5_35) &&& 2047)), (0, .ref (h 3)), (1, .ref (h 7)), (4, .int v4_35)]) hx hb dX1_store_84 hl (k := 4) rfl rfl (by decide) rfl (fun ls hl => ?_)
          refine lv_goto (tgt := 35) hx hb dX1_store_87 (by decide) ?_
          exact ih gj35 v4_35 (v5_35 + 1) _ _ ls ⟨se_inc0 c1 hI.1, hI.2⟩ (se_dec c1 hM) (by rw [← hF, F_S_Incoming_store_j35, if_neg c1, if_neg c2]) hP hD hS (lv_sub hl [2, 3, 4, 0] rfl)
        · refine lv_aload_n hx hb dX1_store_66 rfl (lv_at hl 1 rfl) ?_
          refine va_get (D := D) (ci := 1) (v := .ref (h 4)) (C := RX1) (T := TX1) (N := 8) hx hb hts (se_iw iwX1) hown hK hP 3 rfl rfl 0 (by decide) (hts _ (List.mem_cons_of_mem _ qX1_f9)) (fun _ h9 => h9) rfl dX1_store_67 ?_
          refine lv_iload hx hb dX1_store_70 (lv_at hl 0 rfl) ?_
          refine lv_aload_n hx hb dX1_store_72 rfl (lv_at hl 2 rfl) ?_
          refine va_getN (D := D) (ci := 3) (v := .ref (h 8)) (C := RX3) (T := TX3) (N := 7) hx hb hts (se_iw iwX3) hown hK hP 7 rfl rfl 0 (by decide) (va_Nw.use rfl (hZ _ nX1_f65 rfl)) (fun _ h9 => h9) rfl dX1_store_73 ?_
          refine lv_iload hx hb dX1_store_76 (lv_at hl 4 rfl) ?_
          refine va_bald hx hb hK hP 8 2 rfl rfl (se_inN (N := 1460) (by decide) (se_nn hI.1) (se_nle2 c1 (N := 1460) hI.2)) dX1_store_78 ?_
          refine lv_sipush (v := 255) hx hb dX1_store_79 (by decide) ?_
          refine lv_iand hx hb dX1_store_82 ?_
          refine va_iast hx hb hK hP hD hS 4 1 rfl rfl (pk_andIn _ 11 (by decide) (by decide)) dX1_store_83 (fun H locs hP hD hS => ?_)
          replace hP : va_P D se_cl (se_WS k h (se_u gj35 4 (Int32.toNatClampNeg (((gj35 7 3) + v5_35) &&& 2047)) ((gj35 8 (Int32.toNatClampNeg v5_35)) &&& 255))) H := hP
          replace hD : va_D A (se_WS k h (se_u gj35 4 (Int32.toNatClampNeg (((gj35 7 3) + v5_35) &&& 2047)) ((gj35 8 (Int32.toNatClampNeg v5_35)) &&& 255))) := hD
          refine lv_iinc (v := (v5_35 + 1)) (lv' := [(5, .int (v5_35 + 1)), (6, .int (((gj35 7 3) + v5_35) &&& 2047)), (0, .ref (h 3)), (1, .ref (h 7)), (4, .int v4_35)]) hx hb dX1_store_84 hl (k := 4) rfl rfl (by decide) rfl (fun ls hl => ?_)
          refine lv_goto (tgt := 35) hx hb dX1_store_87 (by decide) ?_
          exact ih (se_u gj35 4 (Int32.toNatClampNeg (((gj35 7 3) + v5_35) &&& 2047)) ((gj35 8 (Int32.toNatClampNeg v5_35)) &&& 255)) v4_35 (v5_35 + 1) _ _ ls ⟨se_inc0 c1 hI.1, hI.2⟩ (se_dec c1 hM) (by rw [← hF, F_S_Incoming_store_j35, if_neg c1, if_pos c2]) hP hD hS (lv_sub hl [2, 3, 4, 0] rfl)
  have hF : F_S_Incoming_store g = F_S_Incoming_store g := rfl
  refine lv_aload_n hx hb dX1_store_0 rfl (lv_at hl 1 rfl) ?_
  refine va_getN (D := D) (ci := 3) (v := .int (g 7 3)) (C := RX3) (T := TX3) (N := 7) hx hb hts (se_iw iwX3) hown hK hP 7 rfl rfl 3 (by decide) (va_Nw.use rfl (hZ _ nX1_f48 rfl)) (fun _ h9 => h9) rfl dX1_store_1 ?_
  refine lv_aload_n hx hb dX1_store_4 rfl (lv_at hl 0 rfl) ?_
  refine va_get (D := D) (ci := 1) (v := .int (g 3 2)) (C := RX1) (T := TX1) (N := 8) hx hb hts (se_iw iwX1) hown hK hP 3 rfl rfl 2 (by decide) (hts _ (List.mem_cons_of_mem _ qX1_f25)) (fun _ h9 => h9) rfl dX1_store_5 ?_
  refine lv_isub hx hb dX1_store_8 ?_
  refine lv_istore_n (lv' := [(2, .int ((g 7 3) - (g 3 2))), (0, .ref (h 3)), (1, .ref (h 7))]) hx hb dX1_store_9 rfl hl (by decide) rfl (fun ls hl => ?_)
  refine lv_iconst (v := 0) hx hb dX1_store_10 (by decide) ?_
  refine lv_iload_n hx hb dX1_store_11 rfl (lv_at hl 0 rfl) ?_
  refine lv_ineg hx hb dX1_store_12 ?_
  refine va_mmax hx hb (hml.trans hl.1.symm) hown (hts _ (List.mem_cons_of_mem _ qX1_m53)) (hts _ (List.mem_cons_of_mem _ q_static_Math_max)) (hts _ (List.mem_cons_of_mem _ q_ini_java_lang_Math)) (hts _ (List.mem_cons_of_mem _ q_code_Math_max)) (Nat.le_of_ble_eq_true rfl) (Nat.le_of_ble_eq_true rfl) (Nat.zero_le _) (Nat.zero_le _) dX1_store_13 ?_
  refine lv_istore_n (lv' := [(3, .int (if 0 < (-((g 7 3) - (g 3 2))) then (-((g 7 3) - (g 3 2))) else 0)), (2, .int ((g 7 3) - (g 3 2))), (0, .ref (h 3)), (1, .ref (h 7))]) hx hb dX1_store_16 rfl hl (by decide) rfl (fun ls hl => ?_)
  refine lv_aload_n hx hb dX1_store_17 rfl (lv_at hl 3 rfl) ?_
  refine va_getN (D := D) (ci := 3) (v := .int (g 7 1)) (C := RX3) (T := TX3) (N := 7) hx hb hts (se_iw iwX3) hown hK hP 7 rfl rfl 1 (by decide) (va_Nw.use rfl (hZ _ nX1_f59 rfl)) (fun _ h9 => h9) rfl dX1_store_18 ?_
  refine lv_aload_n hx hb dX1_store_21 rfl (lv_at hl 2 rfl) ?_
  refine se_cp (va_runV (C := RX1) (As := []) (rest := [.int (g 7 1)]) ⟨hx, hb, hml, hown, hts⟩ (c_S_Incoming_room l D k h _ g) (se_kV 0 hts q_code_X1_room qX1_m44 q_ini_StreamEnd_Incoming q_instanceMethod_X1_room q_sel_X1_room (by decide +kernel) ⟨Nat.le_of_ble_eq_true rfl, Nat.le_of_ble_eq_true rfl⟩ rfl rfl) ⟨se_blind se_ZN_ok, va_recv hK hP (ci := 1) (q0 := 3) rfl rfl, se_pre se_ZN_ok hP hK hD hZ⟩ rfl rfl hl.1 rfl (lv_room (Nat.le_of_ble_eq_true rfl)) dX1_store_22 ⟨Nat.zero_le _, Nat.zero_le _⟩) hD hS hA (fun H locs hP hD hS => ?_)
  refine lv_iload_n hx hb dX1_store_25 rfl (lv_at hl 1 rfl) ?_
  refine lv_isub hx hb dX1_store_26 ?_
  refine va_mmin hx hb (hml.trans hl.1.symm) hown (hts _ (List.mem_cons_of_mem _ qX1_m62)) (hts _ (List.mem_cons_of_mem _ q_static_Math_min)) (hts _ (List.mem_cons_of_mem _ q_ini_java_lang_Math)) (hts _ (List.mem_cons_of_mem _ q_code_Math_min)) (Nat.le_of_ble_eq_true rfl) (Nat.le_of_ble_eq_true rfl) (Nat.zero_le _) (Nat.zero_le _) dX1_store_27 ?_
  refine lv_istore (lv' := [(4, .int (if ((F_S_Incoming_room g) - ((g 7 3) - (g 3 2))) < (g 7 1) then ((F_S_Incoming_room g) - ((g 7 3) - (g 3 2))) else (g 7 1))), (3, .int (if 0 < (-((g 7 3) - (g 3 2))) then (-((g 7 3) - (g 3 2))) else 0)), (2, .int ((g 7 3) - (g 3 2))), (0, .ref (h 3)), (1, .ref (h 7))]) hx hb dX1_store_30 hl (by decide) rfl (fun ls hl => ?_)
  refine lv_iload_n hx hb dX1_store_32 rfl (lv_at hl 1 rfl) ?_
  refine lv_istore (lv' := [(5, .int (if 0 < (-((g 7 3) - (g 3 2))) then (-((g 7 3) - (g 3 2))) else 0)), (4, .int (if ((F_S_Incoming_room g) - ((g 7 3) - (g 3 2))) < (g 7 1) then ((F_S_Incoming_room g) - ((g 7 3) - (g 3 2))) else (g 7 1))), (3, .int (if 0 < (-((g 7 3) - (g 3 2))) then (-((g 7 3) - (g 3 2))) else 0)), (2, .int ((g 7 3) - (g 3 2))), (0, .ref (h 3)), (1, .ref (h 7))]) hx hb dX1_store_33 hl (by decide) rfl (fun ls hl => ?_)
  exact L35 (((((if ((F_S_Incoming_room g) - ((g 7 3) - (g 3 2))) < (g 7 1) then ((F_S_Incoming_room g) - ((g 7 3) - (g 3 2))) else (g 7 1))) : Int32).toInt - (((if 0 < (-((g 7 3) - (g 3 2))) then (-((g 7 3) - (g 3 2))) else 0)) : Int32).toInt).toNat + 1) g (if ((F_S_Incoming_room g) - ((g 7 3) - (g 3 2))) < (g 7 1) then ((F_S_Incoming_room g) - ((g 7 3) - (g 3 2))) else (g 7 1)) (if 0 < (-((g 7 3) - (g 3 2))) then (-((g 7 3) - (g 3 2))) else 0) _ _ ls ⟨se_max0 _, se_minle hI⟩ (se_fuel _ _) (by rw [F_S_Incoming_store]) hP hD hS (lv_sub hl [4, 5, 1, 0] rfl)
set_option maxRecDepth 100000 in
set_option maxHeartbeats 4000000 in
theorem c_S_Incoming_isAtLast (l : Launch) (D : va_G) (k : Nat → ClassId) (h : Nat → Nat) (sz : Nat) (g : se_G)  : Met l yX1_isAtLast (se_w_X1_isAtLast) ({ frames := 0, cells := 0, slots := 0, locals := 0 }) (va_Pc [.ref (h 3)] (se_Pre D se_cl [(k 2, .byte), (k 4, .int), (k 8, .byte), (k 10, .byte)] (se_WS k h g) se_ZN sz)) (se_Qp D se_cl [(k 2, .byte), (k 4, .int), (k 8, .byte), (k 10, .byte)] (se_WS k h) (F_S_Incoming_isAtLast g) g (va_A (se_WS k h g) sz)) 0 0 (va_A (se_WS k h g) sz) := by
  refine se_met (Qc := se_Qp D se_cl [(k 2, .byte), (k 4, .int), (k 8, .byte), (k 10, .byte)] (se_WS k h) (F_S_Incoming_isAtLast g) g) (cc := cX1_isAtLast) (maxL := 1) (ret := (some .boolean)) (by decide) rfl (Nat.le_of_ble_eq_true rfl) ?_
  intro p e s m below meth c ls A hx hb hr hts hown hlocks hml hA hP hK hD hS hZ hl
  replace hl : lv_has ls 1 [(0, .ref (h 3))] := hl
  have hF : F_S_Incoming_isAtLast g = F_S_Incoming_isAtLast g := rfl
  refine lv_aload_n hx hb dX1_isAtLast_0 rfl (lv_at hl 0 rfl) ?_
  refine va_get (D := D) (ci := 1) (v := .int (g 3 5)) (C := RX1) (T := TX1) (N := 8) hx hb hts (se_iw iwX1) hown hK hP 3 rfl rfl 5 (by decide) (hts _ (List.mem_cons_of_mem _ qX1_f35)) (fun _ h9 => h9) rfl dX1_isAtLast_1 ?_
  refine lv_if_eq (tgt := 22) hx hb dX1_isAtLast_4 (by decide) (fun c1 => ?_) (fun c1 => ?_)
  · refine lv_iconst (v := 0) hx hb dX1_isAtLast_22 (by decide) ?_
    exact se_rpz hx hb hr rfl hlocks hK hP hD hS dX1_isAtLast_23 (by rw [F_S_Incoming_isAtLast, if_pos c1])
  · refine lv_aload_n hx hb dX1_isAtLast_7 rfl (lv_at hl 0 rfl) ?_
    refine va_get (D := D) (ci := 1) (v := .int (g 3 2)) (C := RX1) (T := TX1) (N := 8) hx hb hts (se_iw iwX1) hown hK hP 3 rfl rfl 2 (by decide) (hts _ (List.mem_cons_of_mem _ qX1_f25)) (fun _ h9 => h9) rfl dX1_isAtLast_8 ?_
    refine lv_aload_n hx hb dX1_isAtLast_11 rfl (lv_at hl 0 rfl) ?_
    refine va_get (D := D) (ci := 1) (v := .int (g 3 6)) (C := RX1) (T := TX1) (N := 8) hx hb hts (se_iw iwX1) hown hK hP 3 rfl rfl 6 (by decide) (hts _ (List.mem_cons_of_mem _ qX1_f38)) (fun _ h9 => h9) rfl dX1_isAtLast_12 ?_
    refine lv_icmp_ne (tgt := 22) hx hb dX1_isAtLast_15 (by decide) (fun c2 => ?_) (fun c2 => ?_)
    · refine lv_iconst (v := 0) hx hb dX1_isAtLast_22 (by decide) ?_
      exact se_rpz hx hb hr rfl hlocks hK hP hD hS dX1_isAtLast_23 (by rw [F_S_Incoming_isAtLast, if_neg c1, if_neg c2])
    · refine lv_iconst (v := 1) hx hb dX1_isAtLast_18 (by decide) ?_
      refine lv_goto (tgt := 23) hx hb dX1_isAtLast_19 (by decide) ?_
      exact se_rpz hx hb hr rfl hlocks hK hP hD hS dX1_isAtLast_23 (by rw [F_S_Incoming_isAtLast, if_neg c1, if_pos c2])
set_option maxRecDepth 100000 in
set_option maxHeartbeats 4000000 in
theorem c_S_Incoming_goOn (l : Launch) (D : va_G) (k : Nat → ClassId) (h : Nat → Nat) (sz : Nat) (g : se_G)  : Met l yX1_goOn (se_w_X1_goOn) ({ frames := 1, cells := 0, slots := 0, locals := 20 }) (va_Pc [.ref (h 3)] (se_Pre D se_cl [(k 2, .byte), (k 4, .int), (k 8, .byte), (k 10, .byte)] (se_WS k h g) se_ZN sz)) (se_Qv D se_cl [(k 2, .byte), (k 4, .int), (k 8, .byte), (k 10, .byte)] (se_WS k h) (F_S_Incoming_goOn g) (va_A (se_WS k h g) sz)) 0 0 (va_A (se_WS k h g) sz) := by
  refine se_met (Qc := se_Qv D se_cl [(k 2, .byte), (k 4, .int), (k 8, .byte), (k 10, .byte)] (se_WS k h) (F_S_Incoming_goOn g)) (cc := cX1_goOn) (maxL := 1) (ret := none) (by decide) rfl (Nat.le_of_ble_eq_true rfl) ?_
  intro p e s m below meth c ls A hx hb hr hts hown hlocks hml hA hP hK hD hS hZ hl
  replace hl : lv_has ls 1 [(0, .ref (h 3))] := hl
  have J57 : ∀ (gj57 : se_G) (H : Heap) (locs : List Loc) (ls : Array Slot), F_S_Incoming_goOn_j57 gj57 = F_S_Incoming_goOn g → va_P D se_cl (se_WS k h gj57) H → va_D A (se_WS k h gj57) → va_S A s.heap H locs → lv_has ls 1 [(0, .ref (h 3))] → W p l e ({ frames := 1, cells := 0, slots := 0, locals := 20 }) s m [.ref (h 3)].toArray below meth c H locs 0 0 (MQ below (se_Qv D se_cl [(k 2, .byte), (k 4, .int), (k 8, .byte), (k 10, .byte)] (se_WS k h) (F_S_Incoming_goOn g) A) [.ref (h 3)].toArray s 0 0 A) (F0 m 57 ls []) := by
    intro gj57 H locs ls hF hP hD hS hl
    refine lv_aload_n hx hb dX1_goOn_57 rfl (lv_at hl 0 rfl) ?_
    refine se_cp (va_runV (C := RX1) (As := []) (rest := []) ⟨hx, hb, hml, hown, hts⟩ (c_S_Incoming_isAtLast l D k h _ gj57) (se_kV 0 hts q_code_X1_isAtLast qX1_m69 q_ini_StreamEnd_Incoming q_instanceMethod_X1_isAtLast q_sel_X1_isAtLast (by decide +kernel) ⟨Nat.le_of_ble_eq_true rfl, Nat.le_of_ble_eq_true rfl⟩ rfl rfl) ⟨se_blind se_ZN_ok, va_recv hK hP (ci := 1) (q0 := 3) rfl rfl, se_pre se_ZN_ok hP hK hD hZ⟩ rfl rfl hl.1 rfl (lv_room (Nat.le_of_ble_eq_true rfl)) dX1_goOn_58 ⟨Nat.zero_le _, Nat.zero_le _⟩) hD hS hA (fun H locs hP hD hS => ?_)
    refine lv_if_eq (tgt := 79) hx hb dX1_goOn_61 (by decide) (fun c2 => ?_) (fun c2 => ?_)
    · exact se_rv hx hb hr hlocks hK hP hD hS dX1_goOn_79 (by rw [← hF, F_S_Incoming_goOn_j57, if_pos c2])
    · refine lv_aload_n hx hb dX1_goOn_64 rfl (lv_at hl 0 rfl) ?_
      refine lv_dup hx hb dX1_goOn_65 rfl ?_
      refine va_get (D := D) (ci := 1) (v := .int (gj57 3 2)) (C := RX1) (T := TX1) (N := 8) hx hb hts (se_iw iwX1) hown hK hP 3 rfl rfl 2 (by decide) (hts _ (List.mem_cons_of_mem _ qX1_f25)) (fun _ h9 => h9) rfl dX1_goOn_66 ?_
      refine lv_iconst (v := 1) hx hb dX1_goOn_69 (by decide) ?_
      refine lv_iadd hx hb dX1_goOn_70 ?_
      refine va_put (D := D) (ci := 1) (v := .int ((gj57 3 2) + 1)) (ty := .int) (C := RX1) (T := TX1) (N := 8) hx hb hts (se_iw iwX1) tyX1 tyX1_ok nmX1 hown hK hP hD hS 3 rfl rfl 2 (by decide) (hts _ (List.mem_cons_of_mem _ qX1_f25)) (fun _ h9 => h9) rfl (by decide +kernel) rfl rfl (Nat.le_of_ble_eq_true rfl) dX1_goOn_71 (fun H locs hP hD hS => ?_)
      replace hP : va_P D se_cl (se_WS k h (se_u gj57 3 2 ((gj57 3 2) + 1))) H := hP
      replace hD : va_D A (se_WS k h (se_u gj57 3 2 ((gj57 3 2) + 1))) := hD
      refine lv_aload_n hx hb dX1_goOn_74 rfl (lv_at hl 0 rfl) ?_
      refine lv_iconst (v := 1) hx hb dX1_goOn_75 (by decide) ?_
      refine va_put (D := D) (ci := 1) (v := .int 1) (ty := .boolean) (C := RX1) (T := TX1) (N := 8) hx hb hts (se_iw iwX1) tyX1 tyX1_ok nmX1 hown hK hP hD hS 3 rfl rfl 7 (by decide) (hts _ (List.mem_cons_of_mem _ qX1_f41)) (fun _ h9 => h9) rfl (by decide +kernel) rfl rfl (Nat.le_of_ble_eq_true rfl) dX1_goOn_76 (fun H locs hP hD hS => ?_)
      replace hP : va_P D se_cl (se_WS k h (se_u (se_u gj57 3 2 ((gj57 3 2) + 1)) 3 7 1)) H := hP
      replace hD : va_D A (se_WS k h (se_u (se_u gj57 3 2 ((gj57 3 2) + 1)) 3 7 1)) := hD
      exact se_rv hx hb hr hlocks hK hP hD hS dX1_goOn_79 (by rw [← hF, F_S_Incoming_goOn_j57, if_neg c2])
  have L0 : ∀ (n : Nat) (gj0 : se_G) (H : Heap) (locs : List Loc) (ls : Array Slot), ((2048 : Int32).toInt - (gj0 3 3).toInt).toNat < n → F_S_Incoming_goOn_j0 n gj0 = F_S_Incoming_goOn g → va_P D se_cl (se_WS k h gj0) H → va_D A (se_WS k h gj0) → va_S A s.heap H locs → lv_has ls 1 [(0, .ref (h 3))] → W p l e ({ frames := 1, cells := 0, slots := 0, locals := 20 }) s m [.ref (h 3)].toArray below meth c H locs 0 0 (MQ below (se_Qv D se_cl [(k 2, .byte), (k 4, .int), (k 8, .byte), (k 10, .byte)] (se_WS k h) (F_S_Incoming_goOn g) A) [.ref (h 3)].toArray s 0 0 A) (F0 m 0 ls []) := by
    intro n
    induction n with
    | zero => intro gj0 H locs ls hM; exact absurd hM (Nat.not_lt_zero _)
    | succ n ih =>
      intro gj0 H locs ls hM hF hP hD hS hl
      refine lv_aload_n hx hb dX1_goOn_0 rfl (lv_at hl 0 rfl) ?_
      refine va_get (D := D) (ci := 1) (v := .int (gj0 3 3)) (C := RX1) (T := TX1) (N := 8) hx hb hts (se_iw iwX1) hown hK hP 3 rfl rfl 3 (by decide) (hts _ (List.mem_cons_of_mem _ qX1_f29)) (fun _ h9 => h9) rfl dX1_goOn_1 ?_
      refine lv_sipush (v := 2048) hx hb dX1_goOn_4 (by decide) ?_
      refine lv_icmp_ge (tgt := 57) hx hb dX1_goOn_7 (by decide) (fun c1 => ?_) (fun c1 => ?_)
      · exact J57 gj0 _ _ ls (by rw [← hF, F_S_Incoming_goOn_j0, if_pos c1]) hP hD hS (lv_sub hl [0] rfl)
      · refine lv_aload_n hx hb dX1_goOn_10 rfl (lv_at hl 0 rfl) ?_
        refine se_cp (va_runV (C := RX1) (As := []) (rest := []) ⟨hx, hb, hml, hown, hts⟩ (c_S_Incoming_isAtLast l D k h _ gj0) (se_kV 0 hts q_code_X1_isAtLast qX1_m69 q_ini_StreamEnd_Incoming q_instanceMethod_X1_isAtLast q_sel_X1_isAtLast (by decide +kernel) ⟨Nat.le_of_ble_eq_true rfl, Nat.le_of_ble_eq_true rfl⟩ rfl rfl) ⟨se_blind se_ZN_ok, va_recv hK hP (ci := 1) (q0 := 3) rfl rfl, se_pre se_ZN_ok hP hK hD hZ⟩ rfl rfl hl.1 rfl (lv_room (Nat.le_of_ble_eq_true rfl)) dX1_goOn_11 ⟨Nat.zero_le _, Nat.zero_le _⟩) hD hS hA (fun H locs hP hD hS => ?_)
        refine lv_if_ne (tgt := 57) hx hb dX1_goOn_14 (by decide) (fun c3 => ?_) (fun c3 => ?_)
        · exact J57 gj0 _ _ ls (by rw [← hF, F_S_Incoming_goOn_j0, if_neg c1, if_neg c3]) hP hD hS (lv_sub hl [0] rfl)
        · refine lv_aload_n hx hb dX1_goOn_17 rfl (lv_at hl 0 rfl) ?_
          refine va_get (D := D) (ci := 1) (v := .ref (h 4)) (C := RX1) (T := TX1) (N := 8) hx hb hts (se_iw iwX1) hown hK hP 3 rfl rfl 0 (by decide) (hts _ (List.mem_cons_of_mem _ qX1_f9)) (fun _ h9 => h9) rfl dX1_goOn_18 ?_
          refine lv_aload_n hx hb dX1_goOn_21 rfl (lv_at hl 0 rfl) ?_
          refine va_get (D := D) (ci := 1) (v := .int (gj0 3 2)) (C := RX1) (T := TX1) (N := 8) hx hb hts (se_iw iwX1) hown hK hP 3 rfl rfl 2 (by decide) (hts _ (List.mem_cons_of_mem _ qX1_f25)) (fun _ h9 => h9) rfl dX1_goOn_22 ?_
          refine lv_sipush (v := 2047) hx hb dX1_goOn_25 (by decide) ?_
          refine lv_iand hx hb dX1_goOn_28 ?_
          refine va_iald hx hb hK hP 4 1 rfl rfl (pk_andIn _ 11 (by decide) (by decide)) dX1_goOn_29 ?_
          refine lv_iconst (v := (-1)) hx hb dX1_goOn_30 (by decide) ?_
          refine lv_icmp_eq (tgt := 57) hx hb dX1_goOn_31 (by decide) (fun c4 => ?_) (fun c4 => ?_)
          · exact J57 gj0 _ _ ls (by rw [← hF, F_S_Incoming_goOn_j0, if_neg c1, if_pos c3, if_pos c4]) hP hD hS (lv_sub hl [0] rfl)
          · refine lv_aload_n hx hb dX1_goOn_34 rfl (lv_at hl 0 rfl) ?_
            refine lv_dup hx hb dX1_goOn_35 rfl ?_
            refine va_get (D := D) (ci := 1) (v := .int (gj0 3 2)) (C := RX1) (T := TX1) (N := 8) hx hb hts (se_iw iwX1) hown hK hP 3 rfl rfl 2 (by decide) (hts _ (List.mem_cons_of_mem _ qX1_f25)) (fun _ h9 => h9) rfl dX1_goOn_36 ?_
            refine lv_iconst (v := 1) hx hb dX1_goOn_39 (by decide) ?_
            refine lv_iadd hx hb dX1_goOn_40 ?_
            refine va_put (D := D) (ci := 1) (v := .int ((gj0 3 2) + 1)) (ty := .int) (C := RX1) (T := TX1) (N := 8) hx hb hts (se_iw iwX1) tyX1 tyX1_ok nmX1 hown hK hP hD hS 3 rfl rfl 2 (by decide) (hts _ (List.mem_cons_of_mem _ qX1_f25)) (fun _ h9 => h9) rfl (by decide +kernel) rfl rfl (Nat.le_of_ble_eq_true rfl) dX1_goOn_41 (fun H locs hP hD hS => ?_)
            replace hP : va_P D se_cl (se_WS k h (se_u gj0 3 2 ((gj0 3 2) + 1))) H := hP
            replace hD : va_D A (se_WS k h (se_u gj0 3 2 ((gj0 3 2) + 1))) := hD
            refine lv_aload_n hx hb dX1_goOn_44 rfl (lv_at hl 0 rfl) ?_
            refine lv_dup hx hb dX1_goOn_45 rfl ?_
            refine va_get (D := D) (ci := 1) (v := .int (gj0 3 3)) (C := RX1) (T := TX1) (N := 8) hx hb hts (se_iw iwX1) hown hK hP 3 rfl rfl 3 (by decide) (hts _ (List.mem_cons_of_mem _ qX1_f29)) (fun _ h9 => h9) rfl dX1_goOn_46 ?_
            refine lv_iconst (v := 1) hx hb dX1_goOn_49 (by decide) ?_
            refine lv_iadd hx hb dX1_goOn_50 ?_
            refine va_put (D := D) (ci := 1) (v := .int ((gj0 3 3) + 1)) (ty := .int) (C := RX1) (T := TX1) (N := 8) hx hb hts (se_iw iwX1) tyX1 tyX1_ok nmX1 hown hK hP hD hS 3 rfl rfl 3 (by decide) (hts _ (List.mem_cons_of_mem _ qX1_f29)) (fun _ h9 => h9) rfl (by decide +kernel) rfl rfl (Nat.le_of_ble_eq_true rfl) dX1_goOn_51 (fun H locs hP hD hS => ?_)
            replace hP : va_P D se_cl (se_WS k h (se_u (se_u gj0 3 2 ((gj0 3 2) + 1)) 3 3 ((gj0 3 3) + 1))) H := hP
            replace hD : va_D A (se_WS k h (se_u (se_u gj0 3 2 ((gj0 3 2) + 1)) 3 3 ((gj0 3 3) + 1))) := hD
            refine lv_goto (tgt := 0) hx hb dX1_goOn_54 (by decide) ?_
            exact ih (se_u (se_u gj0 3 2 ((gj0 3 2) + 1)) 3 3 ((gj0 3 3) + 1)) _ _ ls (se_dec c1 hM) (by rw [← hF, F_S_Incoming_goOn_j0, if_neg c1, if_pos c3, if_neg c4]) hP hD hS (lv_sub hl [0] rfl)
  have hF : F_S_Incoming_goOn g = F_S_Incoming_goOn g := rfl
  exact L0 (((2048 : Int32).toInt - (g 3 3).toInt).toNat + 1) g _ _ ls (se_fuel _ _) (by rw [F_S_Incoming_goOn]) hP hD hS (lv_sub hl [0] rfl)
end
section
/-! written by program (wip/gen) -/
set_option maxRecDepth 100000 in
set_option maxHeartbeats 4000000 in
theorem c_S_peerLeaves (l : Launch) (D : va_G) (k : Nat → ClassId) (h : Nat → Nat) (sz : Nat) (g : se_G)  : Met l yX5_peerLeaves (se_w_X5_peerLeaves) ({ frames := 2, cells := 0, slots := 0, locals := 41 }) (va_Pc [.ref (h 0)] (se_Pre D se_cl [(k 2, .byte), (k 4, .int), (k 8, .byte), (k 10, .byte)] (se_WS k h g) se_ZN sz)) (se_Qv D se_cl [(k 2, .byte), (k 4, .int), (k 8, .byte), (k 10, .byte)] (se_WS k h) (F_S_peerLeaves g) (va_A (se_WS k h g) sz)) 0 0 (va_A (se_WS k h g) sz) := by
  refine se_met (Qc := se_Qv D se_cl [(k 2, .byte), (k 4, .int), (k 8, .byte), (k 10, .byte)] (se_WS k h) (F_S_peerLeaves g)) (cc := cX5_peerLeaves) (maxL := 1) (ret := none) (by decide) rfl (Nat.le_of_ble_eq_true rfl) ?_
  intro p e s m below meth c ls A hx hb hr hts hown hlocks hml hA hP hK hD hS hZ hl
  replace hl : lv_has ls 1 [(0, .ref (h 0))] := hl
  have hF : F_S_peerLeaves g = F_S_peerLeaves g := rfl
  refine lv_aload_n hx hb dX5_peerLeaves_0 rfl (lv_at hl 0 rfl) ?_
  refine va_get (D := D) (ci := 5) (v := .int (g 0 9)) (C := RX5) (T := TX5) (N := 12) hx hb hts (se_iw iwX5) hown hK hP 0 rfl rfl 9 (by decide) (hts _ (List.mem_cons_of_mem _ qX5_f60)) (fun _ h9 => h9) rfl dX5_peerLeaves_1 ?_
  refine lv_iconst (v := 4) hx hb dX5_peerLeaves_4 (by decide) ?_
  refine lv_icmp_ne (tgt := 17) hx hb dX5_peerLeaves_5 (by decide) (fun c1 => ?_) (fun c1 => ?_)
  · refine lv_aload_n hx hb dX5_peerLeaves_17 rfl (lv_at hl 0 rfl) ?_
    refine va_get (D := D) (ci := 5) (v := .int (g 0 9)) (C := RX5) (T := TX5) (N := 12) hx hb hts (se_iw iwX5) hown hK hP 0 rfl rfl 9 (by decide) (hts _ (List.mem_cons_of_mem _ qX5_f60)) (fun _ h9 => h9) rfl dX5_peerLeaves_18 ?_
    refine lv_iconst (v := 5) hx hb dX5_peerLeaves_21 (by decide) ?_
    refine lv_icmp_ne (tgt := 34) hx hb dX5_peerLeaves_22 (by decide) (fun c2 => ?_) (fun c2 => ?_)
    · refine lv_aload_n hx hb dX5_peerLeaves_34 rfl (lv_at hl 0 rfl) ?_
      refine lv_bipush (v := 10) hx hb dX5_peerLeaves_35 (by decide) ?_
      refine se_cvE (va_runV (C := RX5) (As := [.int 10]) (rest := []) ⟨hx, hb, hml, hown, hts⟩ (c_S_halt l D k h _ g 10) (se_kV 1 hts q_code_X5_halt qX5_m132 q_ini_StreamEnd q_instanceMethod_X5_halt q_sel_X5_halt (by decide +kernel) ⟨Nat.le_of_ble_eq_true rfl, Nat.le_of_ble_eq_true rfl⟩ rfl rfl) ⟨se_blind se_ZN_ok, va_recv hK hP (ci := 5) (q0 := 0) rfl rfl, se_pre se_ZN_ok hP hK hD hZ⟩ rfl rfl hl.1 rfl (lv_room (Nat.le_of_ble_eq_true rfl)) dX5_peerLeaves_37 ⟨Nat.zero_le _, Nat.zero_le _⟩) hD hS hA (fun g1 H locs eg1 hP hD hS => ?_)
      exact se_rv hx hb hr hlocks hK hP hD hS dX5_peerLeaves_40 (by subst eg1; rw [F_S_peerLeaves, if_neg c1, if_neg c2])
    · refine lv_aload_n hx hb dX5_peerLeaves_25 rfl (lv_at hl 0 rfl) ?_
      refine lv_bipush (v := 8) hx hb dX5_peerLeaves_26 (by decide) ?_
      refine va_put (D := D) (ci := 5) (v := .int 8) (ty := .int) (C := RX5) (T := TX5) (N := 12) hx hb hts (se_iw iwX5) tyX5 tyX5_ok nmX5 hown hK hP hD hS 0 rfl rfl 9 (by decide) (hts _ (List.mem_cons_of_mem _ qX5_f60)) (fun _ h9 => h9) rfl (by decide +kernel) rfl rfl (Nat.le_of_ble_eq_true rfl) dX5_peerLeaves_28 (fun H locs hP hD hS => ?_)
      replace hP : va_P D se_cl (se_WS k h (se_u g 0 9 8)) H := hP
      replace hD : va_D A (se_WS k h (se_u g 0 9 8)) := hD
      refine lv_goto (tgt := 40) hx hb dX5_peerLeaves_31 (by decide) ?_
      exact se_rv hx hb hr hlocks hK hP hD hS dX5_peerLeaves_40 (by rw [F_S_peerLeaves, if_neg c1, if_pos c2])
  · refine lv_aload_n hx hb dX5_peerLeaves_8 rfl (lv_at hl 0 rfl) ?_
    refine lv_bipush (v := 7) hx hb dX5_peerLeaves_9 (by decide) ?_
    refine va_put (D := D) (ci := 5) (v := .int 7) (ty := .int) (C := RX5) (T := TX5) (N := 12) hx hb hts (se_iw iwX5) tyX5 tyX5_ok nmX5 hown hK hP hD hS 0 rfl rfl 9 (by decide) (hts _ (List.mem_cons_of_mem _ qX5_f60)) (fun _ h9 => h9) rfl (by decide +kernel) rfl rfl (Nat.le_of_ble_eq_true rfl) dX5_peerLeaves_11 (fun H locs hP hD hS => ?_)
    replace hP : va_P D se_cl (se_WS k h (se_u g 0 9 7)) H := hP
    replace hD : va_D A (se_WS k h (se_u g 0 9 7)) := hD
    refine lv_goto (tgt := 40) hx hb dX5_peerLeaves_14 (by decide) ?_
    exact se_rv hx hb hr hlocks hK hP hD hS dX5_peerLeaves_40 (by rw [F_S_peerLeaves, if_pos c1])
set_option maxRecDepth 100000 in
set_option maxHeartbeats 4000000 in
theorem c_S_Incoming_noteLast (l : Launch) (D : va_G) (k : Nat → ClassId) (h : Nat → Nat) (sz : Nat) (g : se_G) (p1 : Int32) : Met l yX1_noteLast (se_w_X1_noteLast) ({ frames := 1, cells := 0, slots := 0, locals := 20 }) (va_Pc [.ref (h 3), .int p1] (se_Pre D se_cl [(k 2, .byte), (k 4, .int), (k 8, .byte), (k 10, .byte)] (se_WS k h g) se_ZN sz)) (se_Qv D se_cl [(k 2, .byte), (k 4, .int), (k 8, .byte), (k 10, .byte)] (se_WS k h) (F_S_Incoming_noteLast g p1) (va_A (se_WS k h g) sz)) 0 0 (va_A (se_WS k h g) sz) := by
  refine se_met (Qc := se_Qv D se_cl [(k 2, .byte), (k 4, .int), (k 8, .byte), (k 10, .byte)] (se_WS k h) (F_S_Incoming_noteLast g p1)) (cc := cX1_noteLast) (maxL := 3) (ret := none) (by decide) rfl (Nat.le_of_ble_eq_true rfl) ?_
  intro p e s m below meth c ls A hx hb hr hts hown hlocks hml hA hP hK hD hS hZ hl
  replace hl : lv_has ls 3 [(0, .ref (h 3)), (1, .int p1)] := hl
  have hF : F_S_Incoming_noteLast g p1 = F_S_Incoming_noteLast g p1 := rfl
  refine lv_iload_n hx hb dX1_noteLast_0 rfl (lv_at hl 1 rfl) ?_
  refine lv_aload_n hx hb dX1_noteLast_1 rfl (lv_at hl 0 rfl) ?_
  refine va_get (D := D) (ci := 1) (v := .int (g 3 2)) (C := RX1) (T := TX1) (N := 8) hx hb hts (se_iw iwX1) hown hK hP 3 rfl rfl 2 (by decide) (hts _ (List.mem_cons_of_mem _ qX1_f25)) (fun _ h9 => h9) rfl dX1_noteLast_2 ?_
  refine lv_isub hx hb dX1_noteLast_5 ?_
  refine lv_istore_n (lv' := [(2, .int (p1 - (g 3 2))), (0, .ref (h 3)), (1, .int p1)]) hx hb dX1_noteLast_6 rfl hl (by decide) rfl (fun ls hl => ?_)
  refine lv_aload_n hx hb dX1_noteLast_7 rfl (lv_at hl 1 rfl) ?_
  refine va_get (D := D) (ci := 1) (v := .int (g 3 5)) (C := RX1) (T := TX1) (N := 8) hx hb hts (se_iw iwX1) hown hK hP 3 rfl rfl 5 (by decide) (hts _ (List.mem_cons_of_mem _ qX1_f35)) (fun _ h9 => h9) rfl dX1_noteLast_8 ?_
  refine lv_if_ne (tgt := 36) hx hb dX1_noteLast_11 (by decide) (fun c1 => ?_) (fun c1 => ?_)
  · exact se_rv hx hb hr hlocks hK hP hD hS dX1_noteLast_36 (by rw [F_S_Incoming_noteLast, if_neg c1])
  · refine lv_iload_n hx hb dX1_noteLast_14 rfl (lv_at hl 0 rfl) ?_
    refine lv_if_lt (tgt := 36) hx hb dX1_noteLast_15 (by decide) (fun c2 => ?_) (fun c2 => ?_)
    · exact se_rv hx hb hr hlocks hK hP hD hS dX1_noteLast_36 (by rw [F_S_Incoming_noteLast, if_pos c1, if_pos c2])
    · refine lv_iload_n hx hb dX1_noteLast_18 rfl (lv_at hl 0 rfl) ?_
      refine lv_aload_n hx hb dX1_noteLast_19 rfl (lv_at hl 1 rfl) ?_
      refine se_cp (va_runV (C := RX1) (As := []) (rest := [.int (p1 - (g 3 2))]) ⟨hx, hb, hml, hown, hts⟩ (c_S_Incoming_room l D k h _ g) (se_kV 0 hts q_code_X1_room qX1_m44 q_ini_StreamEnd_Incoming q_instanceMethod_X1_room q_sel_X1_room (by decide +kernel) ⟨Nat.le_of_ble_eq_true rfl, Nat.le_of_ble_eq_true rfl⟩ rfl rfl) ⟨se_blind se_ZN_ok, va_recv hK hP (ci := 1) (q0 := 3) rfl rfl, se_pre se_ZN_ok hP hK hD hZ⟩ rfl rfl hl.1 rfl (lv_room (Nat.le_of_ble_eq_true rfl)) dX1_noteLast_20 ⟨Nat.zero_le _, Nat.zero_le _⟩) hD hS hA (fun H locs hP hD hS => ?_)
      refine lv_icmp_ge (tgt := 36) hx hb dX1_noteLast_23 (by decide) (fun c3 => ?_) (fun c3 => ?_)
      · exact se_rv hx hb hr hlocks hK hP hD hS dX1_noteLast_36 (by rw [F_S_Incoming_noteLast, if_pos c1, if_neg c2, if_pos c3])
      · refine lv_aload_n hx hb dX1_noteLast_26 rfl (lv_at hl 1 rfl) ?_
        refine lv_iconst (v := 1) hx hb dX1_noteLast_27 (by decide) ?_
        refine va_put (D := D) (ci := 1) (v := .int 1) (ty := .boolean) (C := RX1) (T := TX1) (N := 8) hx hb hts (se_iw iwX1) tyX1 tyX1_ok nmX1 hown hK hP hD hS 3 rfl rfl 5 (by decide) (hts _ (List.mem_cons_of_mem _ qX1_f35)) (fun _ h9 => h9) rfl (by decide +kernel) rfl rfl (Nat.le_of_ble_eq_true rfl) dX1_noteLast_28 (fun H locs hP hD hS => ?_)
        replace hP : va_P D se_cl (se_WS k h (se_u g 3 5 1)) H := hP
        replace hD : va_D A (se_WS k h (se_u g 3 5 1)) := hD
        refine lv_aload_n hx hb dX1_noteLast_31 rfl (lv_at hl 1 rfl) ?_
        refine lv_iload_n hx hb dX1_noteLast_32 rfl (lv_at hl 2 rfl) ?_
        refine va_put (D := D) (ci := 1) (v := .int p1) (ty := .int) (C := RX1) (T := TX1) (N := 8) hx hb hts (se_iw iwX1) tyX1 tyX1_ok nmX1 hown hK hP hD hS 3 rfl rfl 6 (by decide) (hts _ (List.mem_cons_of_mem _ qX1_f38)) (fun _ h9 => h9) rfl (by decide +kernel) rfl rfl (Nat.le_of_ble_eq_true rfl) dX1_noteLast_33 (fun H locs hP hD hS => ?_)
        replace hP : va_P D se_cl (se_WS k h (se_u (se_u g 3 5 1) 3 6 p1)) H := hP
        replace hD : va_D A (se_WS k h (se_u (se_u g 3 5 1) 3 6 p1)) := hD
        exact se_rv hx hb hr hlocks hK hP hD hS dX1_noteLast_36 (by rw [F_S_Incoming_noteLast, if_pos c1, if_neg c2, if_neg c3])
set_option maxRecDepth 100000 in
set_option maxHeartbeats 4000000 in
theorem c_S_takeBytes (l : Launch) (D : va_G) (k : Nat → ClassId) (h : Nat → Nat) (sz : Nat) (g : se_G)  (hI : (g 7 1).toInt ≤ 1460) : Met l yX5_takeBytes (se_w_X5_takeBytes) ({ frames := 3, cells := 0, slots := 0, locals := 61 }) (va_Pc [.ref (h 0)] (se_Pre D se_cl [(k 2, .byte), (k 4, .int), (k 8, .byte), (k 10, .byte)] (se_WS k h g) se_ZN sz)) (se_Qv D se_cl [(k 2, .byte), (k 4, .int), (k 8, .byte), (k 10, .byte)] (se_WS k h) (F_S_takeBytes g) (va_A (se_WS k h g) sz)) 0 0 (va_A (se_WS k h g) sz) := by
  refine se_met (Qc := se_Qv D se_cl [(k 2, .byte), (k 4, .int), (k 8, .byte), (k 10, .byte)] (se_WS k h) (F_S_takeBytes g)) (cc := cX5_takeBytes) (maxL := 2) (ret := none) (by decide) rfl (Nat.le_of_ble_eq_true rfl) ?_
  intro p e s m below meth c ls A hx hb hr hts hown hlocks hml hA hP hK hD hS hZ hl
  replace hl : lv_has ls 2 [(0, .ref (h 0))] := hl
  have J74 : ∀ (gj74 : se_G) (v1_74 : Int32) (H : Heap) (locs : List Loc) (ls : Array Slot), F_S_takeBytes_j74 gj74 v1_74 = F_S_takeBytes g → va_P D se_cl (se_WS k h gj74) H → va_D A (se_WS k h gj74) → va_S A s.heap H locs → lv_has ls 2 [(0, .ref (h 0)), (1, .int v1_74)] → W p l e ({ frames := 3, cells := 0, slots := 0, locals := 61 }) s m [.ref (h 0)].toArray below meth c H locs 0 0 (MQ below (se_Qv D se_cl [(k 2, .byte), (k 4, .int), (k 8, .byte), (k 10, .byte)] (se_WS k h) (F_S_takeBytes g) A) [.ref (h 0)].toArray s 0 0 A) (F0 m 74 ls []) := by
    intro gj74 v1_74 H locs ls hF hP hD hS hl
    refine lv_iload_n hx hb dX5_takeBytes_74 rfl (lv_at hl 1 rfl) ?_
    refine lv_if_ne (tgt := 88) hx hb dX5_takeBytes_75 (by decide) (fun c2 => ?_) (fun c2 => ?_)
    · refine lv_aload_n hx hb dX5_takeBytes_88 rfl (lv_at hl 0 rfl) ?_
      refine va_get (D := D) (ci := 5) (v := .ref (h 6)) (C := RX5) (T := TX5) (N := 12) hx hb hts (se_iw iwX5) hown hK hP 0 rfl rfl 5 (by decide) (hts _ (List.mem_cons_of_mem _ qX5_f42)) (fun _ h9 => h9) rfl dX5_takeBytes_89 ?_
      refine lv_iconst (v := 1) hx hb dX5_takeBytes_92 (by decide) ?_
      refine va_putN (D := D) (ci := 0) (v := .int 1) (ty := .boolean) (C := RX0) (T := TX0) (N := 9) hx hb hts (se_iw iwX0) tyX0 tyX0_ok nmX0 hown hK hP hD hS 6 rfl rfl 8 (by decide) (va_Nw.use rfl (hZ _ nX5_f206 rfl)) (fun _ h9 => h9) rfl (by decide +kernel) rfl rfl (Nat.le_of_ble_eq_true rfl) dX5_takeBytes_93 (fun H locs hP hD hS => ?_)
      replace hP : va_P D se_cl (se_WS k h (se_u gj74 6 8 1)) H := hP
      replace hD : va_D A (se_WS k h (se_u gj74 6 8 1)) := hD
      exact se_rv hx hb hr hlocks hK hP hD hS dX5_takeBytes_96 (by rw [← hF, F_S_takeBytes_j74, if_neg c2])
    · refine lv_aload_n hx hb dX5_takeBytes_78 rfl (lv_at hl 0 rfl) ?_
      refine va_get (D := D) (ci := 5) (v := .ref (h 7)) (C := RX5) (T := TX5) (N := 12) hx hb hts (se_iw iwX5) hown hK hP 0 rfl rfl 6 (by decide) (hts _ (List.mem_cons_of_mem _ qX5_f49)) (fun _ h9 => h9) rfl dX5_takeBytes_79 ?_
      refine va_getN (D := D) (ci := 3) (v := .int (gj74 7 1)) (C := RX3) (T := TX3) (N := 7) hx hb hts (se_iw iwX3) hown hK hP 7 rfl rfl 1 (by decide) (va_Nw.use rfl (hZ _ nX5_f230 rfl)) (fun _ h9 => h9) rfl dX5_takeBytes_82 ?_
      refine lv_if_le (tgt := 96) hx hb dX5_takeBytes_85 (by decide) (fun c3 => ?_) (fun c3 => ?_)
      · exact se_rv hx hb hr hlocks hK hP hD hS dX5_takeBytes_96 (by rw [← hF, F_S_takeBytes_j74, if_pos c2, if_pos c3])
      · refine lv_aload_n hx hb dX5_takeBytes_88 rfl (lv_at hl 0 rfl) ?_
        refine va_get (D := D) (ci := 5) (v := .ref (h 6)) (C := RX5) (T := TX5) (N := 12) hx hb hts (se_iw iwX5) hown hK hP 0 rfl rfl 5 (by decide) (hts _ (List.mem_cons_of_mem _ qX5_f42)) (fun _ h9 => h9) rfl dX5_takeBytes_89 ?_
        refine lv_iconst (v := 1) hx hb dX5_takeBytes_92 (by decide) ?_
        refine va_putN (D := D) (ci := 0) (v := .int 1) (ty := .boolean) (C := RX0) (T := TX0) (N := 9) hx hb hts (se_iw iwX0) tyX0 tyX0_ok nmX0 hown hK hP hD hS 6 rfl rfl 8 (by decide) (va_Nw.use rfl (hZ _ nX5_f206 rfl)) (fun _ h9 => h9) rfl (by decide +kernel) rfl rfl (Nat.le_of_ble_eq_true rfl) dX5_takeBytes_93 (fun H locs hP hD hS => ?_)
        replace hP : va_P D se_cl (se_WS k h (se_u gj74 6 8 1)) H := hP
        replace hD : va_D A (se_WS k h (se_u gj74 6 8 1)) := hD
        exact se_rv hx hb hr hlocks hK hP hD hS dX5_takeBytes_96 (by rw [← hF, F_S_takeBytes_j74, if_pos c2, if_neg c3])
  have J53 : ∀ (gj53 : se_G) (v1_53 : Int32) (H : Heap) (locs : List Loc) (ls : Array Slot), F_S_takeBytes_j53 gj53 v1_53 = F_S_takeBytes g → va_P D se_cl (se_WS k h gj53) H → va_D A (se_WS k h gj53) → va_S A s.heap H locs → lv_has ls 2 [(0, .ref (h 0)), (1, .int v1_53)] → W p l e ({ frames := 3, cells := 0, slots := 0, locals := 61 }) s m [.ref (h 0)].toArray below meth c H locs 0 0 (MQ below (se_Qv D se_cl [(k 2, .byte), (k 4, .int), (k 8, .byte), (k 10, .byte)] (se_WS k h) (F_S_takeBytes g) A) [.ref (h 0)].toArray s 0 0 A) (F0 m 53 ls []) := by
    intro gj53 v1_53 H locs ls hF hP hD hS hl
    refine lv_aload_n hx hb dX5_takeBytes_53 rfl (lv_at hl 0 rfl) ?_
    refine va_get (D := D) (ci := 5) (v := .ref (h 3)) (C := RX5) (T := TX5) (N := 12) hx hb hts (se_iw iwX5) hown hK hP 0 rfl rfl 3 (by decide) (hts _ (List.mem_cons_of_mem _ qX5_f28)) (fun _ h9 => h9) rfl dX5_takeBytes_54 ?_
    refine se_cvE (va_runVN (C := RX1) (As := []) (rest := []) ⟨hx, hb, hml, hown, hts⟩ (c_S_Incoming_goOn l D k h _ gj53) (se_kVN 0 hts q_code_X1_goOn (hZ _ nX5_m440 rfl) q_ini_StreamEnd_Incoming q_instanceMethod_X1_goOn q_sel_X1_goOn (by decide +kernel) ⟨Nat.le_of_ble_eq_true rfl, Nat.le_of_ble_eq_true rfl⟩ rfl rfl) ⟨se_blind se_ZN_ok, va_recv hK hP (ci := 1) (q0 := 3) rfl rfl, se_pre se_ZN_ok hP hK hD hZ⟩ rfl rfl hl.1 rfl (lv_room (Nat.le_of_ble_eq_true rfl)) dX5_takeBytes_57 ⟨Nat.zero_le _, Nat.zero_le _⟩) hD hS hA (fun g2 H locs eg2 hP hD hS => ?_)
    replace hF : (F_S_takeBytes_k1 (F_S_Incoming_goOn gj53) v1_53) = F_S_takeBytes g := by rw [← hF, F_S_takeBytes_j53]
    rw [← eg2] at hF
    replace hF : F_S_takeBytes_k1 g2 v1_53 = F_S_takeBytes g := hF
    refine lv_aload_n hx hb dX5_takeBytes_60 rfl (lv_at hl 0 rfl) ?_
    refine va_get (D := D) (ci := 5) (v := .ref (h 3)) (C := RX5) (T := TX5) (N := 12) hx hb hts (se_iw iwX5) hown hK hP 0 rfl rfl 3 (by decide) (hts _ (List.mem_cons_of_mem _ qX5_f28)) (fun _ h9 => h9) rfl dX5_takeBytes_61 ?_
    refine va_getN (D := D) (ci := 1) (v := .int (g2 3 7)) (C := RX1) (T := TX1) (N := 8) hx hb hts (se_iw iwX1) hown hK hP 3 rfl rfl 7 (by decide) (va_Nw.use rfl (hZ _ nX5_f125 rfl)) (fun _ h9 => h9) rfl dX5_takeBytes_64 ?_
    refine lv_if_eq (tgt := 74) hx hb dX5_takeBytes_67 (by decide) (fun c5 => ?_) (fun c5 => ?_)
    · exact J74 g2 v1_53 _ _ ls (by rw [← hF, F_S_takeBytes_k1, if_pos c5]) hP hD hS (lv_sub hl [0, 1] rfl)
    · refine lv_aload_n hx hb dX5_takeBytes_70 rfl (lv_at hl 0 rfl) ?_
      refine se_cvE (va_runV (C := RX5) (As := []) (rest := []) ⟨hx, hb, hml, hown, hts⟩ (c_S_peerLeaves l D k h _ g2) (se_kV 0 hts q_code_X5_peerLeaves qX5_m443 q_ini_StreamEnd q_instanceMethod_X5_peerLeaves q_sel_X5_peerLeaves (by decide +kernel) ⟨Nat.le_of_ble_eq_true rfl, Nat.le_of_ble_eq_true rfl⟩ rfl rfl) ⟨se_blind se_ZN_ok, va_recv hK hP (ci := 5) (q0 := 0) rfl rfl, se_pre se_ZN_ok hP hK hD hZ⟩ rfl rfl hl.1 rfl (lv_room (Nat.le_of_ble_eq_true rfl)) dX5_takeBytes_71 ⟨Nat.zero_le _, Nat.zero_le _⟩) hD hS hA (fun g3 H locs eg3 hP hD hS => ?_)
      exact J74 g3 v1_53 _ _ ls (by subst eg3; rw [← hF, F_S_takeBytes_k1, if_neg c5]) hP hD hS (lv_sub hl [0, 1] rfl)
  have hF : F_S_takeBytes g = F_S_takeBytes g := rfl
  refine lv_aload_n hx hb dX5_takeBytes_0 rfl (lv_at hl 0 rfl) ?_
  refine va_get (D := D) (ci := 5) (v := .ref (h 7)) (C := RX5) (T := TX5) (N := 12) hx hb hts (se_iw iwX5) hown hK hP 0 rfl rfl 6 (by decide) (hts _ (List.mem_cons_of_mem _ qX5_f49)) (fun _ h9 => h9) rfl dX5_takeBytes_1 ?_
  refine lv_iconst (v := 2) hx hb dX5_takeBytes_4 (by decide) ?_
  refine se_cp (va_runVN (C := RX3) (As := [.int 2]) (rest := []) ⟨hx, hb, hml, hown, hts⟩ (c_S_Segment_has_7 l D k h _ g 2) (se_kVN 1 hts q_code_X3_has (hZ _ nX5_m338 rfl) q_ini_StreamEnd_Segment q_instanceMethod_X3_has q_sel_X3_has (by decide +kernel) ⟨Nat.le_of_ble_eq_true rfl, Nat.le_of_ble_eq_true rfl⟩ rfl rfl) ⟨se_blind se_ZN_ok, va_recv hK hP (ci := 3) (q0 := 7) rfl rfl, se_pre se_ZN_ok hP hK hD hZ⟩ rfl rfl hl.1 rfl (lv_room (Nat.le_of_ble_eq_true rfl)) dX5_takeBytes_5 ⟨Nat.zero_le _, Nat.zero_le _⟩) hD hS hA (fun H locs hP hD hS => ?_)
  refine lv_istore_n (lv' := [(1, .int (F_S_Segment_has_7 g 2)), (0, .ref (h 0))]) hx hb dX5_takeBytes_8 rfl hl (by decide) rfl (fun ls hl => ?_)
  refine lv_aload_n hx hb dX5_takeBytes_9 rfl (lv_at hl 1 rfl) ?_
  refine se_cp (va_runV (C := RX5) (As := []) (rest := []) ⟨hx, hb, hml, hown, hts⟩ (c_S_mayTakeBytes l D k h _ g) (se_kV 0 hts q_code_X5_mayTakeBytes qX5_m308 q_ini_StreamEnd q_instanceMethod_X5_mayTakeBytes q_sel_X5_mayTakeBytes (by decide +kernel) ⟨Nat.le_of_ble_eq_true rfl, Nat.le_of_ble_eq_true rfl⟩ rfl rfl) ⟨se_blind se_ZN_ok, va_recv hK hP (ci := 5) (q0 := 0) rfl rfl, se_pre se_ZN_ok hP hK hD hZ⟩ rfl rfl hl.1 rfl (lv_room (Nat.le_of_ble_eq_true rfl)) dX5_takeBytes_10 ⟨Nat.zero_le _, Nat.zero_le _⟩) hD hS hA (fun H locs hP hD hS => ?_)
  refine lv_if_eq (tgt := 74) hx hb dX5_takeBytes_13 (by decide) (fun c1 => ?_) (fun c1 => ?_)
  · exact J74 g (F_S_Segment_has_7 g 2) _ _ ls (by rw [F_S_takeBytes, if_pos c1]) hP hD hS (lv_sub hl [1, 0] rfl)
  · refine lv_aload_n hx hb dX5_takeBytes_16 rfl (lv_at hl 1 rfl) ?_
    refine va_get (D := D) (ci := 5) (v := .ref (h 3)) (C := RX5) (T := TX5) (N := 12) hx hb hts (se_iw iwX5) hown hK hP 0 rfl rfl 3 (by decide) (hts _ (List.mem_cons_of_mem _ qX5_f28)) (fun _ h9 => h9) rfl dX5_takeBytes_17 ?_
    refine lv_aload_n hx hb dX5_takeBytes_20 rfl (lv_at hl 1 rfl) ?_
    refine va_get (D := D) (ci := 5) (v := .ref (h 7)) (C := RX5) (T := TX5) (N := 12) hx hb hts (se_iw iwX5) hown hK hP 0 rfl rfl 6 (by decide) (hts _ (List.mem_cons_of_mem _ qX5_f49)) (fun _ h9 => h9) rfl dX5_takeBytes_21 ?_
    refine se_cvE (va_runVN (C := RX1) (As := [.ref (h 7)]) (rest := []) ⟨hx, hb, hml, hown, hts⟩ (c_S_Incoming_store l D k h _ g hI) (se_kVN 1 hts q_code_X1_store (hZ _ nX5_m433 rfl) q_ini_StreamEnd_Incoming q_instanceMethod_X1_store q_sel_X1_store (by decide +kernel) ⟨Nat.le_of_ble_eq_true rfl, Nat.le_of_ble_eq_true rfl⟩ rfl rfl) ⟨se_blind se_ZN_ok, va_recv hK hP (ci := 1) (q0 := 3) rfl rfl, se_pre se_ZN_ok hP hK hD hZ⟩ rfl rfl hl.1 rfl (lv_room (Nat.le_of_ble_eq_true rfl)) dX5_takeBytes_24 ⟨Nat.zero_le _, Nat.zero_le _⟩) hD hS hA (fun g1 H locs eg1 hP hD hS => ?_)
    replace hF : (F_S_takeBytes_k2 g (F_S_Incoming_store g)) = F_S_takeBytes g := by rw [F_S_takeBytes, if_neg c1]
    rw [← eg1] at hF
    replace hF : F_S_takeBytes_k2 g g1 = F_S_takeBytes g := hF
    refine lv_iload_n hx hb dX5_takeBytes_27 rfl (lv_at hl 0 rfl) ?_
    refine lv_if_eq (tgt := 53) hx hb dX5_takeBytes_28 (by decide) (fun c4 => ?_) (fun c4 => ?_)
    · exact J53 g1 (F_S_Segment_has_7 g 2) _ _ ls (by rw [← hF, F_S_takeBytes_k2, if_pos c4]) hP hD hS (lv_sub hl [1, 0] rfl)
    · refine lv_aload_n hx hb dX5_takeBytes_31 rfl (lv_at hl 1 rfl) ?_
      refine va_get (D := D) (ci := 5) (v := .ref (h 3)) (C := RX5) (T := TX5) (N := 12) hx hb hts (se_iw iwX5) hown hK hP 0 rfl rfl 3 (by decide) (hts _ (List.mem_cons_of_mem _ qX5_f28)) (fun _ h9 => h9) rfl dX5_takeBytes_32 ?_
      refine lv_aload_n hx hb dX5_takeBytes_35 rfl (lv_at hl 1 rfl) ?_
      refine va_get (D := D) (ci := 5) (v := .ref (h 7)) (C := RX5) (T := TX5) (N := 12) hx hb hts (se_iw iwX5) hown hK hP 0 rfl rfl 6 (by decide) (hts _ (List.mem_cons_of_mem _ qX5_f49)) (fun _ h9 => h9) rfl dX5_takeBytes_36 ?_
      refine va_getN (D := D) (ci := 3) (v := .int (g1 7 3)) (C := RX3) (T := TX3) (N := 7) hx hb hts (se_iw iwX3) hown hK hP 7 rfl rfl 3 (by decide) (va_Nw.use rfl (hZ _ nX5_f220 rfl)) (fun _ h9 => h9) rfl dX5_takeBytes_39 ?_
      refine lv_aload_n hx hb dX5_takeBytes_42 rfl (lv_at hl 1 rfl) ?_
      refine va_get (D := D) (ci := 5) (v := .ref (h 7)) (C := RX5) (T := TX5) (N := 12) hx hb hts (se_iw iwX5) hown hK hP 0 rfl rfl 6 (by decide) (hts _ (List.mem_cons_of_mem _ qX5_f49)) (fun _ h9 => h9) rfl dX5_takeBytes_43 ?_
      refine va_getN (D := D) (ci := 3) (v := .int (g1 7 1)) (C := RX3) (T := TX3) (N := 7) hx hb hts (se_iw iwX3) hown hK hP 7 rfl rfl 1 (by decide) (va_Nw.use rfl (hZ _ nX5_f230 rfl)) (fun _ h9 => h9) rfl dX5_takeBytes_46 ?_
      refine lv_iadd hx hb dX5_takeBytes_49 ?_
      refine se_cvE (va_runVN (C := RX1) (As := [.int ((g1 7 3) + (g1 7 1))]) (rest := []) ⟨hx, hb, hml, hown, hts⟩ (c_S_Incoming_noteLast l D k h _ g1 ((g1 7 3) + (g1 7 1))) (se_kVN 1 hts q_code_X1_noteLast (hZ _ nX5_m437 rfl) q_ini_StreamEnd_Incoming q_instanceMethod_X1_noteLast q_sel_X1_noteLast (by decide +kernel) ⟨Nat.le_of_ble_eq_true rfl, Nat.le_of_ble_eq_true rfl⟩ rfl rfl) ⟨se_blind se_ZN_ok, va_recv hK hP (ci := 1) (q0 := 3) rfl rfl, se_pre se_ZN_ok hP hK hD hZ⟩ rfl rfl hl.1 rfl (lv_room (Nat.le_of_ble_eq_true rfl)) dX5_takeBytes_50 ⟨Nat.zero_le _, Nat.zero_le _⟩) hD hS hA (fun g4 H locs eg4 hP hD hS => ?_)
      exact J53 g4 (F_S_Segment_has_7 g 2) _ _ ls (by subst eg4; rw [← hF, F_S_takeBytes_k2, if_neg c4]) hP hD hS (lv_sub hl [1, 0] rfl)
set_option maxRecDepth 100000 in
set_option maxHeartbeats 4000000 in
theorem c_S_leave (l : Launch) (D : va_G) (k : Nat → ClassId) (h : Nat → Nat) (sz : Nat) (g : se_G)  : Met l yX5_leave (se_w_X5_leave) ({ frames := 2, cells := 0, slots := 0, locals := 41 }) (va_Pc [.ref (h 0)] (se_Pre D se_cl [(k 2, .byte), (k 4, .int), (k 8, .byte), (k 10, .byte)] (se_WS k h g) se_ZN sz)) (se_Qv D se_cl [(k 2, .byte), (k 4, .int), (k 8, .byte), (k 10, .byte)] (se_WS k h) (F_S_leave g) (va_A (se_WS k h g) sz)) 0 0 (va_A (se_WS k h g) sz) := by
  refine se_met (Qc := se_Qv D se_cl [(k 2, .byte), (k 4, .int), (k 8, .byte), (k 10, .byte)] (se_WS k h) (F_S_leave g)) (cc := cX5_leave) (maxL := 1) (ret := none) (by decide) rfl (Nat.le_of_ble_eq_true rfl) ?_
  intro p e s m below meth c ls A hx hb hr hts hown hlocks hml hA hP hK hD hS hZ hl
  replace hl : lv_has ls 1 [(0, .ref (h 0))] := hl
  have hF : F_S_leave g = F_S_leave g := rfl
  refine lv_aload_n hx hb dX5_leave_0 rfl (lv_at hl 0 rfl) ?_
  refine va_get (D := D) (ci := 5) (v := .int (g 0 9)) (C := RX5) (T := TX5) (N := 12) hx hb hts (se_iw iwX5) hown hK hP 0 rfl rfl 9 (by decide) (hts _ (List.mem_cons_of_mem _ qX5_f60)) (fun _ h9 => h9) rfl dX5_leave_1 ?_
  refine lv_iconst (v := 5) hx hb dX5_leave_4 (by decide) ?_
  refine lv_icmp_ne (tgt := 17) hx hb dX5_leave_5 (by decide) (fun c1 => ?_) (fun c1 => ?_)
  · refine lv_aload_n hx hb dX5_leave_17 rfl (lv_at hl 0 rfl) ?_
    refine va_get (D := D) (ci := 5) (v := .int (g 0 9)) (C := RX5) (T := TX5) (N := 12) hx hb hts (se_iw iwX5) hown hK hP 0 rfl rfl 9 (by decide) (hts _ (List.mem_cons_of_mem _ qX5_f60)) (fun _ h9 => h9) rfl dX5_leave_18 ?_
    refine lv_bipush (v := 8) hx hb dX5_leave_21 (by decide) ?_
    refine lv_icmp_ne (tgt := 35) hx hb dX5_leave_23 (by decide) (fun c2 => ?_) (fun c2 => ?_)
    · refine lv_aload_n hx hb dX5_leave_35 rfl (lv_at hl 0 rfl) ?_
      refine va_get (D := D) (ci := 5) (v := .int (g 0 9)) (C := RX5) (T := TX5) (N := 12) hx hb hts (se_iw iwX5) hown hK hP 0 rfl rfl 9 (by decide) (hts _ (List.mem_cons_of_mem _ qX5_f60)) (fun _ h9 => h9) rfl dX5_leave_36 ?_
      refine lv_bipush (v := 9) hx hb dX5_leave_39 (by decide) ?_
      refine lv_icmp_ne (tgt := 49) hx hb dX5_leave_41 (by decide) (fun c3 => ?_) (fun c3 => ?_)
      · exact se_rv hx hb hr hlocks hK hP hD hS dX5_leave_49 (by rw [F_S_leave, if_neg c1, if_neg c2, if_neg c3])
      · refine lv_aload_n hx hb dX5_leave_44 rfl (lv_at hl 0 rfl) ?_
        refine lv_iconst (v := 0) hx hb dX5_leave_45 (by decide) ?_
        refine se_cvE (va_runV (C := RX5) (As := [.int 0]) (rest := []) ⟨hx, hb, hml, hown, hts⟩ (c_S_halt l D k h _ g 0) (se_kV 1 hts q_code_X5_halt qX5_m132 q_ini_StreamEnd q_instanceMethod_X5_halt q_sel_X5_halt (by decide +kernel) ⟨Nat.le_of_ble_eq_true rfl, Nat.le_of_ble_eq_true rfl⟩ rfl rfl) ⟨se_blind se_ZN_ok, va_recv hK hP (ci := 5) (q0 := 0) rfl rfl, se_pre se_ZN_ok hP hK hD hZ⟩ rfl rfl hl.1 rfl (lv_room (Nat.le_of_ble_eq_true rfl)) dX5_leave_46 ⟨Nat.zero_le _, Nat.zero_le _⟩) hD hS hA (fun g1 H locs eg1 hP hD hS => ?_)
        exact se_rv hx hb hr hlocks hK hP hD hS dX5_leave_49 (by subst eg1; rw [F_S_leave, if_neg c1, if_neg c2, if_pos c3])
    · refine lv_aload_n hx hb dX5_leave_26 rfl (lv_at hl 0 rfl) ?_
      refine lv_bipush (v := 10) hx hb dX5_leave_27 (by decide) ?_
      refine se_cvE (va_runV (C := RX5) (As := [.int 10]) (rest := []) ⟨hx, hb, hml, hown, hts⟩ (c_S_halt l D k h _ g 10) (se_kV 1 hts q_code_X5_halt qX5_m132 q_ini_StreamEnd q_instanceMethod_X5_halt q_sel_X5_halt (by decide +kernel) ⟨Nat.le_of_ble_eq_true rfl, Nat.le_of_ble_eq_true rfl⟩ rfl rfl) ⟨se_blind se_ZN_ok, va_recv hK hP (ci := 5) (q0 := 0) rfl rfl, se_pre se_ZN_ok hP hK hD hZ⟩ rfl rfl hl.1 rfl (lv_room (Nat.le_of_ble_eq_true rfl)) dX5_leave_29 ⟨Nat.zero_le _, Nat.zero_le _⟩) hD hS hA (fun g2 H locs eg2 hP hD hS => ?_)
      refine lv_goto (tgt := 49) hx hb dX5_leave_32 (by decide) ?_
      exact se_rv hx hb hr hlocks hK hP hD hS dX5_leave_49 (by subst eg2; rw [F_S_leave, if_neg c1, if_pos c2])
  · refine lv_aload_n hx hb dX5_leave_8 rfl (lv_at hl 0 rfl) ?_
    refine lv_bipush (v := 6) hx hb dX5_leave_9 (by decide) ?_
    refine va_put (D := D) (ci := 5) (v := .int 6) (ty := .int) (C := RX5) (T := TX5) (N := 12) hx hb hts (se_iw iwX5) tyX5 tyX5_ok nmX5 hown hK hP hD hS 0 rfl rfl 9 (by decide) (hts _ (List.mem_cons_of_mem _ qX5_f60)) (fun _ h9 => h9) rfl (by decide +kernel) rfl rfl (Nat.le_of_ble_eq_true rfl) dX5_leave_11 (fun H locs hP hD hS => ?_)
    replace hP : va_P D se_cl (se_WS k h (se_u g 0 9 6)) H := hP
    replace hD : va_D A (se_WS k h (se_u g 0 9 6)) := hD
    refine lv_goto (tgt := 49) hx hb dX5_leave_14 (by decide) ?_
    exact se_rv hx hb hr hlocks hK hP hD hS dX5_leave_49 (by rw [F_S_leave, if_pos c1])
set_option maxRecDepth 100000 in
set_option maxHeartbeats 4000000 in
theorem c_S_Outgoing_thank (l : Launch) (D : va_G) (k : Nat → ClassId) (h : Nat → Nat) (sz : Nat) (g : se_G) (p1 : Int32) : Met l yX2_thank (se_w_X2_thank) ({ frames := 1, cells := 0, slots := 0, locals := 21 }) (va_Pc [.ref (h 1), .int p1] (se_Pre D se_cl [(k 2, .byte), (k 4, .int), (k 8, .byte), (k 10, .byte)] (se_WS k h g) se_ZN sz)) (se_Qv D se_cl [(k 2, .byte), (k 4, .int), (k 8, .byte), (k 10, .byte)] (se_WS k h) (F_S_Outgoing_thank g p1) (va_A (se_WS k h g) sz)) 0 0 (va_A (se_WS k h g) sz) := by
  refine se_met (Qc := se_Qv D se_cl [(k 2, .byte), (k 4, .int), (k 8, .byte), (k 10, .byte)] (se_WS k h) (F_S_Outgoing_thank g p1)) (cc := cX2_thank) (maxL := 3) (ret := none) (by decide) rfl (Nat.le_of_ble_eq_true rfl) ?_
  intro p e s m below meth c ls A hx hb hr hts hown hlocks hml hA hP hK hD hS hZ hl
  replace hl : lv_has ls 3 [(0, .ref (h 1)), (1, .int p1)] := hl
  have hF : F_S_Outgoing_thank g p1 = F_S_Outgoing_thank g p1 := rfl
  refine lv_aload_n hx hb dX2_thank_0 rfl (lv_at hl 0 rfl) ?_
  refine va_get (D := D) (ci := 2) (v := .int (g 1 3)) (C := RX2) (T := TX2) (N := 13) hx hb hts (se_iw iwX2) hown hK hP 1 rfl rfl 3 (by decide) (hts _ (List.mem_cons_of_mem _ qX2_f25)) (fun _ h9 => h9) rfl dX2_thank_1 ?_
  refine lv_iload_n hx hb dX2_thank_4 rfl (lv_at hl 1 rfl) ?_
  refine lv_aload_n hx hb dX2_thank_5 rfl (lv_at hl 0 rfl) ?_
  refine va_get (D := D) (ci := 2) (v := .int (g 1 5)) (C := RX2) (T := TX2) (N := 13) hx hb hts (se_iw iwX2) hown hK hP 1 rfl rfl 5 (by decide) (hts _ (List.mem_cons_of_mem _ qX2_f31)) (fun _ h9 => h9) rfl dX2_thank_6 ?_
  refine lv_isub hx hb dX2_thank_9 ?_
  refine va_mmin hx hb (hml.trans hl.1.symm) hown (hts _ (List.mem_cons_of_mem _ qX2_m62)) (hts _ (List.mem_cons_of_mem _ q_static_Math_min)) (hts _ (List.mem_cons_of_mem _ q_ini_java_lang_Math)) (hts _ (List.mem_cons_of_mem _ q_code_Math_min)) (Nat.le_of_ble_eq_true rfl) (Nat.le_of_ble_eq_true rfl) (Nat.zero_le _) (Nat.zero_le _) dX2_thank_10 ?_
  refine lv_istore_n (lv' := [(2, .int (if (p1 - (g 1 5)) < (g 1 3) then (p1 - (g 1 5)) else (g 1 3))), (0, .ref (h 1)), (1, .int p1)]) hx hb dX2_thank_13 rfl hl (by decide) rfl (fun ls hl => ?_)
  refine lv_aload_n hx hb dX2_thank_14 rfl (lv_at hl 1 rfl) ?_
  refine lv_aload_n hx hb dX2_thank_15 rfl (lv_at hl 1 rfl) ?_
  refine va_get (D := D) (ci := 2) (v := .int (g 1 1)) (C := RX2) (T := TX2) (N := 13) hx hb hts (se_iw iwX2) hown hK hP 1 rfl rfl 1 (by decide) (hts _ (List.mem_cons_of_mem _ qX2_f19)) (fun _ h9 => h9) rfl dX2_thank_16 ?_
  refine lv_iload_n hx hb dX2_thank_19 rfl (lv_at hl 0 rfl) ?_
  refine lv_iadd hx hb dX2_thank_20 ?_
  refine lv_sipush (v := 2047) hx hb dX2_thank_21 (by decide) ?_
  refine lv_iand hx hb dX2_thank_24 ?_
  refine va_put (D := D) (ci := 2) (v := .int (((g 1 1) + (if (p1 - (g 1 5)) < (g 1 3) then (p1 - (g 1 5)) else (g 1 3))) &&& 2047)) (ty := .int) (C := RX2) (T := TX2) (N := 13) hx hb hts (se_iw iwX2) tyX2 tyX2_ok nmX2 hown hK hP hD hS 1 rfl rfl 1 (by decide) (hts _ (List.mem_cons_of_mem _ qX2_f19)) (fun _ h9 => h9) rfl (by decide +kernel) rfl rfl (Nat.le_of_ble_eq_true rfl) dX2_thank_25 (fun H locs hP hD hS => ?_)
  replace hP : va_P D se_cl (se_WS k h (se_u g 1 1 (((g 1 1) + (if (p1 - (g 1 5)) < (g 1 3) then (p1 - (g 1 5)) else (g 1 3))) &&& 2047))) H := hP
  replace hD : va_D A (se_WS k h (se_u g 1 1 (((g 1 1) + (if (p1 - (g 1 5)) < (g 1 3) then (p1 - (g 1 5)) else (g 1 3))) &&& 2047))) := hD
  refine lv_aload_n hx hb dX2_thank_28 rfl (lv_at hl 1 rfl) ?_
  refine lv_dup hx hb dX2_thank_29 rfl ?_
  refine va_get (D := D) (ci := 2) (v := .int (g 1 2)) (C := RX2) (T := TX2) (N := 13) hx hb hts (se_iw iwX2) hown hK hP 1 rfl rfl 2 (by decide) (hts _ (List.mem_cons_of_mem _ qX2_f22)) (fun _ h9 => h9) rfl dX2_thank_30 ?_
  refine lv_iload_n hx hb dX2_thank_33 rfl (lv_at hl 0 rfl) ?_
  refine lv_isub hx hb dX2_thank_34 ?_
  refine va_put (D := D) (ci := 2) (v := .int ((g 1 2) - (if (p1 - (g 1 5)) < (g 1 3) then (p1 - (g 1 5)) else (g 1 3)))) (ty := .int) (C := RX2) (T := TX2) (N := 13) hx hb hts (se_iw iwX2) tyX2 tyX2_ok nmX2 hown hK hP hD hS 1 rfl rfl 2 (by decide) (hts _ (List.mem_cons_of_mem _ qX2_f22)) (fun _ h9 => h9) rfl (by decide +kernel) rfl rfl (Nat.le_of_ble_eq_true rfl) dX2_thank_35 (fun H locs hP hD hS => ?_)
  replace hP : va_P D se_cl (se_WS k h (se_u (se_u g 1 1 (((g 1 1) + (if (p1 - (g 1 5)) < (g 1 3) then (p1 - (g 1 5)) else (g 1 3))) &&& 2047)) 1 2 ((g 1 2) - (if (p1 - (g 1 5)) < (g 1 3) then (p1 - (g 1 5)) else (g 1 3))))) H := hP
  replace hD : va_D A (se_WS k h (se_u (se_u g 1 1 (((g 1 1) + (if (p1 - (g 1 5)) < (g 1 3) then (p1 - (g 1 5)) else (g 1 3))) &&& 2047)) 1 2 ((g 1 2) - (if (p1 - (g 1 5)) < (g 1 3) then (p1 - (g 1 5)) else (g 1 3))))) := hD
  refine lv_aload_n hx hb dX2_thank_38 rfl (lv_at hl 1 rfl) ?_
  refine lv_dup hx hb dX2_thank_39 rfl ?_
  refine va_get (D := D) (ci := 2) (v := .int (g 1 3)) (C := RX2) (T := TX2) (N := 13) hx hb hts (se_iw iwX2) hown hK hP 1 rfl rfl 3 (by decide) (hts _ (List.mem_cons_of_mem _ qX2_f25)) (fun _ h9 => h9) rfl dX2_thank_40 ?_
  refine lv_iload_n hx hb dX2_thank_43 rfl (lv_at hl 0 rfl) ?_
  refine lv_isub hx hb dX2_thank_44 ?_
  refine va_put (D := D) (ci := 2) (v := .int ((g 1 3) - (if (p1 - (g 1 5)) < (g 1 3) then (p1 - (g 1 5)) else (g 1 3)))) (ty := .int) (C := RX2) (T := TX2) (N := 13) hx hb hts (se_iw iwX2) tyX2 tyX2_ok nmX2 hown hK hP hD hS 1 rfl rfl 3 (by decide) (hts _ (List.mem_cons_of_mem _ qX2_f25)) (fun _ h9 => h9) rfl (by decide +kernel) rfl rfl (Nat.le_of_ble_eq_true rfl) dX2_thank_45 (fun H locs hP hD hS => ?_)
  replace hP : va_P D se_cl (se_WS k h (se_u (se_u (se_u g 1 1 (((g 1 1) + (if (p1 - (g 1 5)) < (g 1 3) then (p1 - (g 1 5)) else (g 1 3))) &&& 2047)) 1 2 ((g 1 2) - (if (p1 - (g 1 5)) < (g 1 3) then (p1 - (g 1 5)) else (g 1 3)))) 1 3 ((g 1 3) - (if (p1 - (g 1 5)) < (g 1 3) then (p1 - (g 1 5)) else (g 1 3))))) H := hP
  replace hD : va_D A (se_WS k h (se_u (se_u (se_u g 1 1 (((g 1 1) + (if (p1 - (g 1 5)) < (g 1 3) then (p1 - (g 1 5)) else (g 1 3))) &&& 2047)) 1 2 ((g 1 2) - (if (p1 - (g 1 5)) < (g 1 3) then (p1 - (g 1 5)) else (g 1 3)))) 1 3 ((g 1 3) - (if (p1 - (g 1 5)) < (g 1 3) then (p1 - (g 1 5)) else (g 1 3))))) := hD
  refine lv_aload_n hx hb dX2_thank_48 rfl (lv_at hl 1 rfl) ?_
  refine lv_iload_n hx hb dX2_thank_49 rfl (lv_at hl 2 rfl) ?_
  refine va_put (D := D) (ci := 2) (v := .int p1) (ty := .int) (C := RX2) (T := TX2) (N := 13) hx hb hts (se_iw iwX2) tyX2 tyX2_ok nmX2 hown hK hP hD hS 1 rfl rfl 5 (by decide) (hts _ (List.mem_cons_of_mem _ qX2_f31)) (fun _ h9 => h9) rfl (by decide +kernel) rfl rfl (Nat.le_of_ble_eq_true rfl) dX2_thank_50 (fun H locs hP hD hS => ?_)
  replace hP : va_P D se_cl (se_WS k h (se_u (se_u (se_u (se_u g 1 1 (((g 1 1) + (if (p1 - (g 1 5)) < (g 1 3) then (p1 - (g 1 5)) else (g 1 3))) &&& 2047)) 1 2 ((g 1 2) - (if (p1 - (g 1 5)) < (g 1 3) then (p1 - (g 1 5)) else (g 1 3)))) 1 3 ((g 1 3) - (if (p1 - (g 1 5)) < (g 1 3) then (p1 - (g 1 5)) else (g 1 3)))) 1 5 p1)) H := hP
  replace hD : va_D A (se_WS k h (se_u (se_u (se_u (se_u g 1 1 (((g 1 1) + (if (p1 - (g 1 5)) < (g 1 3) then (p1 - (g 1 5)) else (g 1 3))) &&& 2047)) 1 2 ((g 1 2) - (if (p1 - (g 1 5)) < (g 1 3) then (p1 - (g 1 5)) else (g 1 3)))) 1 3 ((g 1 3) - (if (p1 - (g 1 5)) < (g 1 3) then (p1 - (g 1 5)) else (g 1 3)))) 1 5 p1)) := hD
  exact se_rv hx hb hr hlocks hK hP hD hS dX2_thank_53 (by rw [F_S_Outgoing_thank])
set_option maxRecDepth 100000 in
set_option maxHeartbeats 4000000 in
theorem c_S_Watch_learn (l : Launch) (D : va_G) (k : Nat → ClassId) (h : Nat → Nat) (sz : Nat) (g : se_G) (p1 : Int32) : Met l yX4_learn (se_w_X4_learn) ({ frames := 1, cells := 0, slots := 0, locals := 21 }) (va_Pc [.ref (h 5), .int p1] (se_Pre D se_cl [(k 2, .byte), (k 4, .int), (k 8, .byte), (k 10, .byte)] (se_WS k h g) se_ZN sz)) (se_Qv D se_cl [(k 2, .byte), (k 4, .int), (k 8, .byte), (k 10, .byte)] (se_WS k h) (F_S_Watch_learn g p1) (va_A (se_WS k h g) sz)) 0 0 (va_A (se_WS k h g) sz) := by
  refine se_met (Qc := se_Qv D se_cl [(k 2, .byte), (k 4, .int), (k 8, .byte), (k 10, .byte)] (se_WS k h) (F_S_Watch_learn g p1)) (cc := cX4_learn) (maxL := 3) (ret := none) (by decide) rfl (Nat.le_of_ble_eq_true rfl) ?_
  intro p e s m below meth c ls A hx hb hr hts hown hlocks hml hA hP hK hD hS hZ hl
  replace hl : lv_has ls 3 [(0, .ref (h 5)), (1, .int p1)] := hl
  have J70 : ∀ (gj70 : se_G) (H : Heap) (locs : List Loc) (ls : Array Slot), F_S_Watch_learn_j70 gj70 = F_S_Watch_learn g p1 → va_P D se_cl (se_WS k h gj70) H → va_D A (se_WS k h gj70) → va_S A s.heap H locs → lv_has ls 3 [(0, .ref (h 5))] → W p l e ({ frames := 1, cells := 0, slots := 0, locals := 21 }) s m [.ref (h 5), .int p1].toArray below meth c H locs 0 0 (MQ below (se_Qv D se_cl [(k 2, .byte), (k 4, .int), (k 8, .byte), (k 10, .byte)] (se_WS k h) (F_S_Watch_learn g p1) A) [.ref (h 5), .int p1].toArray s 0 0 A) (F0 m 70 ls []) := by
    intro gj70 H locs ls hF hP hD hS hl
    refine lv_aload_n hx hb dX4_learn_70 rfl (lv_at hl 0 rfl) ?_
    refine va_get (D := D) (ci := 4) (v := .int (gj70 5 6)) (C := RX4) (T := TX4) (N := 11) hx hb hts (se_iw iwX4) hown hK hP 5 rfl rfl 6 (by decide) (hts _ (List.mem_cons_of_mem _ qX4_f26)) (fun _ h9 => h9) rfl dX4_learn_71 ?_
    refine lv_bipush (v := 8) hx hb dX4_learn_74 (by decide) ?_
    refine lv_idiv hx hb dX4_learn_76 (by decide) ?_
    refine lv_aload_n hx hb dX4_learn_77 rfl (lv_at hl 0 rfl) ?_
    refine va_get (D := D) (ci := 4) (v := .int (gj70 5 7)) (C := RX4) (T := TX4) (N := 11) hx hb hts (se_iw iwX4) hown hK hP 5 rfl rfl 7 (by decide) (hts _ (List.mem_cons_of_mem _ qX4_f29)) (fun _ h9 => h9) rfl dX4_learn_78 ?_
    refine lv_iconst (v := 1) hx hb dX4_learn_81 (by decide) ?_
    refine va_mmax hx hb (hml.trans hl.1.symm) hown (hts _ (List.mem_cons_of_mem _ qX4_m67)) (hts _ (List.mem_cons_of_mem _ q_static_Math_max)) (hts _ (List.mem_cons_of_mem _ q_ini_java_lang_Math)) (hts _ (List.mem_cons_of_mem _ q_code_Math_max)) (Nat.le_of_ble_eq_true rfl) (Nat.le_of_ble_eq_true rfl) (Nat.zero_le _) (Nat.zero_le _) dX4_learn_82 ?_
    refine lv_iadd hx hb dX4_learn_85 ?_
    refine lv_istore_n (lv' := [(2, .int (((gj70 5 6) / 8) + (if (gj70 5 7) < 1 then 1 else (gj70 5 7)))), (0, .ref (h 5))]) hx hb dX4_learn_86 rfl hl (by decide) rfl (fun ls hl => ?_)
    refine lv_aload_n hx hb dX4_learn_87 rfl (lv_at hl 1 rfl) ?_
    refine lv_bipush (v := 20) hx hb dX4_learn_88 (by decide) ?_
    refine lv_iload_n hx hb dX4_learn_90 rfl (lv_at hl 0 rfl) ?_
    refine lv_sipush (v := 1200) hx hb dX4_learn_91 (by decide) ?_
    refine va_mmin hx hb (hml.trans hl.1.symm) hown (hts _ (List.mem_cons_of_mem _ qX4_m47)) (hts _ (List.mem_cons_of_mem _ q_static_Math_min)) (hts _ (List.mem_cons_of_mem _ q_ini_java_lang_Math)) (hts _ (List.mem_cons_of_mem _ q_code_Math_min)) (Nat.le_of_ble_eq_true rfl) (Nat.le_of_ble_eq_true rfl) (Nat.zero_le _) (Nat.zero_le _) dX4_learn_94 ?_
    refine va_mmax hx hb (hml.trans hl.1.symm) hown (hts _ (List.mem_cons_of_mem _ qX4_m67)) (hts _ (List.mem_cons_of_mem _ q_static_Math_max)) (hts _ (List.mem_cons_of_mem _ q_ini_java_lang_Math)) (hts _ (List.mem_cons_of_mem _ q_code_Math_max)) (Nat.le_of_ble_eq_true rfl) (Nat.le_of_ble_eq_true rfl) (Nat.zero_le _) (Nat.zero_le _) dX4_learn_97 ?_
    refine va_put (D := D) (ci := 4) (v := .int (if 20 < (if 1200 < (((gj70 5 6) / 8) + (if (gj70 5 7) < 1 then 1 else (gj70 5 7))) then 1200 else (((gj70 5 6) / 8) + (if (gj70 5 7) < 1 then 1 else (gj70 5 7)))) then (if 1200 < (((gj70 5 6) / 8) + (if (gj70 5 7) < 1 then 1 else (gj70 5 7))) then 1200 else (((gj70 5 6) / 8) + (if (gj70 5 7) < 1 then 1 else (gj70 5 7)))) else 20)) (ty := .int) (C := RX4) (T := TX4) (N := 11) hx hb hts (se_iw iwX4) tyX4 tyX4_ok nmX4 hown hK hP hD hS 5 rfl rfl 4 (by decide) (hts _ (List.mem_cons_of_mem _ qX4_f9)) (fun _ h9 => h9) rfl (by decide +kernel) rfl rfl (Nat.le_of_ble_eq_true rfl) dX4_learn_100 (fun H locs hP hD hS => ?_)
    replace hP : va_P D se_cl (se_WS k h (se_u gj70 5 4 (if 20 < (if 1200 < (((gj70 5 6) / 8) + (if (gj70 5 7) < 1 then 1 else (gj70 5 7))) then 1200 else (((gj70 5 6) / 8) + (if (gj70 5 7) < 1 then 1 else (gj70 5 7)))) then (if 1200 < (((gj70 5 6) / 8) + (if (gj70 5 7) < 1 then 1 else (gj70 5 7))) then 1200 else (((gj70 5 6) / 8) + (if (gj70 5 7) < 1 then 1 else (gj70 5 7)))) else 20))) H := hP
    replace hD : va_D A (se_WS k h (se_u gj70 5 4 (if 20 < (if 1200 < (((gj70 5 6) / 8) + (if (gj70 5 7) < 1 then 1 else (gj70 5 7))) then 1200 else (((gj70 5 6) / 8) + (if (gj70 5 7) < 1 then 1 else (gj70 5 7)))) then (if 1200 < (((gj70 5 6) / 8) + (if (gj70 5 7) < 1 then 1 else (gj70 5 7))) then 1200 else (((gj70 5 6) / 8) + (if (gj70 5 7) < 1 then 1 else (gj70 5 7)))) else 20))) := hD
    exact se_rv hx hb hr hlocks hK hP hD hS dX4_learn_103 (by rw [← hF, F_S_Watch_learn_j70])
  have hF : F_S_Watch_learn g p1 = F_S_Watch_learn g p1 := rfl
  refine lv_aload_n hx hb dX4_learn_0 rfl (lv_at hl 0 rfl) ?_
  refine va_get (D := D) (ci := 4) (v := .int (g 5 5)) (C := RX4) (T := TX4) (N := 11) hx hb hts (se_iw iwX4) hown hK hP 5 rfl rfl 5 (by decide) (hts _ (List.mem_cons_of_mem _ qX4_f23)) (fun _ h9 => h9) rfl dX4_learn_1 ?_
  refine lv_if_eq (tgt := 50) hx hb dX4_learn_4 (by decide) (fun c1 => ?_) (fun c1 => ?_)
  · refine lv_aload_n hx hb dX4_learn_50 rfl (lv_at hl 0 rfl) ?_
    refine lv_iconst (v := 1) hx hb dX4_learn_51 (by decide) ?_
    refine va_put (D := D) (ci := 4) (v := .int 1) (ty := .boolean) (C := RX4) (T := TX4) (N := 11) hx hb hts (se_iw iwX4) tyX4 tyX4_ok nmX4 hown hK hP hD hS 5 rfl rfl 5 (by decide) (hts _ (List.mem_cons_of_mem _ qX4_f23)) (fun _ h9 => h9) rfl (by decide +kernel) rfl rfl (Nat.le_of_ble_eq_true rfl) dX4_learn_52 (fun H locs hP hD hS => ?_)
    replace hP : va_P D se_cl (se_WS k h (se_u g 5 5 1)) H := hP
    replace hD : va_D A (se_WS k h (se_u g 5 5 1)) := hD
    refine lv_aload_n hx hb dX4_learn_55 rfl (lv_at hl 0 rfl) ?_
    refine lv_bipush (v := 8) hx hb dX4_learn_56 (by decide) ?_
    refine lv_iload_n hx hb dX4_learn_58 rfl (lv_at hl 1 rfl) ?_
    refine lv_imul hx hb dX4_learn_59 ?_
    refine va_put (D := D) (ci := 4) (v := .int (8 * p1)) (ty := .int) (C := RX4) (T := TX4) (N := 11) hx hb hts (se_iw iwX4) tyX4 tyX4_ok nmX4 hown hK hP hD hS 5 rfl rfl 6 (by decide) (hts _ (List.mem_cons_of_mem _ qX4_f26)) (fun _ h9 => h9) rfl (by decide +kernel) rfl rfl (Nat.le_of_ble_eq_true rfl) dX4_learn_60 (fun H locs hP hD hS => ?_)
    replace hP : va_P D se_cl (se_WS k h (se_u (se_u g 5 5 1) 5 6 (8 * p1))) H := hP
    replace hD : va_D A (se_WS k h (se_u (se_u g 5 5 1) 5 6 (8 * p1))) := hD
    refine lv_aload_n hx hb dX4_learn_63 rfl (lv_at hl 0 rfl) ?_
    refine lv_iconst (v := 2) hx hb dX4_learn_64 (by decide) ?_
    refine lv_iload_n hx hb dX4_learn_65 rfl (lv_at hl 1 rfl) ?_
    refine lv_imul hx hb dX4_learn_66 ?_
    refine va_put (D := D) (ci := 4) (v := .int (2 * p1)) (ty := .int) (C := RX4) (T := TX4) (N := 11) hx hb hts (se_iw iwX4) tyX4 tyX4_ok nmX4 hown hK hP hD hS 5 rfl rfl 7 (by decide) (hts _ (List.mem_cons_of_mem _ qX4_f29)) (fun _ h9 => h9) rfl (by decide +kernel) rfl rfl (Nat.le_of_ble_eq_true rfl) dX4_learn_67 (fun H locs hP hD hS => ?_)
    replace hP : va_P D se_cl (se_WS k h (se_u (se_u (se_u g 5 5 1) 5 6 (8 * p1)) 5 7 (2 * p1))) H := hP
    replace hD : va_D A (se_WS k h (se_u (se_u (se_u g 5 5 1) 5 6 (8 * p1)) 5 7 (2 * p1))) := hD
    exact J70 (se_u (se_u (se_u g 5 5 1) 5 6 (8 * p1)) 5 7 (2 * p1)) _ _ ls (by rw [F_S_Watch_learn, if_pos c1]) hP hD hS (lv_sub hl [0] rfl)
  · refine lv_iload_n hx hb dX4_learn_7 rfl (lv_at hl 1 rfl) ?_
    refine lv_aload_n hx hb dX4_learn_8 rfl (lv_at hl 0 rfl) ?_
    refine va_get (D := D) (ci := 4) (v := .int (g 5 6)) (C := RX4) (T := TX4) (N := 11) hx hb hts (se_iw iwX4) hown hK hP 5 rfl rfl 6 (by decide) (hts _ (List.mem_cons_of_mem _ qX4_f26)) (fun _ h9 => h9) rfl dX4_learn_9 ?_
    refine lv_bipush (v := 8) hx hb dX4_learn_12 (by decide) ?_
    refine lv_idiv hx hb dX4_learn_14 (by decide) ?_
    refine lv_isub hx hb dX4_learn_15 ?_
    refine lv_istore_n (lv' := [(2, .int (p1 - ((g 5 6) / 8))), (0, .ref (h 5)), (1, .int p1)]) hx hb dX4_learn_16 rfl hl (by decide) rfl (fun ls hl => ?_)
    refine lv_aload_n hx hb dX4_learn_17 rfl (lv_at hl 1 rfl) ?_
    refine lv_dup hx hb dX4_learn_18 rfl ?_
    refine va_get (D := D) (ci := 4) (v := .int (g 5 6)) (C := RX4) (T := TX4) (N := 11) hx hb hts (se_iw iwX4) hown hK hP 5 rfl rfl 6 (by decide) (hts _ (List.mem_cons_of_mem _ qX4_f26)) (fun _ h9 => h9) rfl dX4_learn_19 ?_
    refine lv_iload_n hx hb dX4_learn_22 rfl (lv_at hl 0 rfl) ?_
    refine lv_iadd hx hb dX4_learn_23 ?_
    refine va_put (D := D) (ci := 4) (v := .int ((g 5 6) + (p1 - ((g 5 6) / 8)))) (ty := .int) (C := RX4) (T := TX4) (N := 11) hx hb hts (se_iw iwX4) tyX4 tyX4_ok nmX4 hown hK hP hD hS 5 rfl rfl 6 (by decide) (hts _ (List.mem_cons_of_mem _ qX4_f26)) (fun _ h9 => h9) rfl (by decide +kernel) rfl rfl (Nat.le_of_ble_eq_true rfl) dX4_learn_24 (fun H locs hP hD hS => ?_)
    replace hP : va_P D se_cl (se_WS k h (se_u g 5 6 ((g 5 6) + (p1 - ((g 5 6) / 8))))) H := hP
    replace hD : va_D A (se_WS k h (se_u g 5 6 ((g 5 6) + (p1 - ((g 5 6) / 8))))) := hD
    refine lv_aload_n hx hb dX4_learn_27 rfl (lv_at hl 1 rfl) ?_
    refine lv_dup hx hb dX4_learn_28 rfl ?_
    refine va_get (D := D) (ci := 4) (v := .int (g 5 7)) (C := RX4) (T := TX4) (N := 11) hx hb hts (se_iw iwX4) hown hK hP 5 rfl rfl 7 (by decide) (hts _ (List.mem_cons_of_mem _ qX4_f29)) (fun _ h9 => h9) rfl dX4_learn_29 ?_
    refine lv_iload_n hx hb dX4_learn_32 rfl (lv_at hl 0 rfl) ?_
    refine va_mabs hx hb (hml.trans hl.1.symm) hown (hts _ (List.mem_cons_of_mem _ qX4_m63)) (hts _ (List.mem_cons_of_mem _ q_static_Math_abs)) (hts _ (List.mem_cons_of_mem _ q_ini_java_lang_Math)) (hts _ (List.mem_cons_of_mem _ q_code_Math_abs)) (Nat.le_of_ble_eq_true rfl) (Nat.le_of_ble_eq_true rfl) (Nat.zero_le _) (Nat.zero_le _) dX4_learn_33 ?_
    refine lv_aload_n hx hb dX4_learn_36 rfl (lv_at hl 1 rfl) ?_
    refine va_get (D := D) (ci := 4) (v := .int (g 5 7)) (C := RX4) (T := TX4) (N := 11) hx hb hts (se_iw iwX4) hown hK hP 5 rfl rfl 7 (by decide) (hts _ (List.mem_cons_of_mem _ qX4_f29)) (fun _ h9 => h9) rfl dX4_learn_37 ?_
    refine lv_iconst (v := 4) hx hb dX4_learn_40 (by decide) ?_
    refine lv_idiv hx hb dX4_learn_41 (by decide) ?_
    refine lv_isub hx hb dX4_learn_42 ?_
    refine lv_iadd hx hb dX4_learn_43 ?_
    refine va_put (D := D) (ci := 4) (v := .int ((g 5 7) + ((if 0 ≤ (p1 - ((g 5 6) / 8)) then (p1 - ((g 5 6) / 8)) else 0 - (p1 - ((g 5 6) / 8))) - ((g 5 7) / 4)))) (ty := .int) (C := RX4) (T := TX4) (N := 11) hx hb hts (se_iw iwX4) tyX4 tyX4_ok nmX4 hown hK hP hD hS 5 rfl rfl 7 (by decide) (hts _ (List.mem_cons_of_mem _ qX4_f29)) (fun _ h9 => h9) rfl (by decide +kernel) rfl rfl (Nat.le_of_ble_eq_true rfl) dX4_learn_44 (fun H locs hP hD hS => ?_)
    replace hP : va_P D se_cl (se_WS k h (se_u (se_u g 5 6 ((g 5 6) + (p1 - ((g 5 6) / 8)))) 5 7 ((g 5 7) + ((if 0 ≤ (p1 - ((g 5 6) / 8)) then (p1 - ((g 5 6) / 8)) else 0 - (p1 - ((g 5 6) / 8))) - ((g 5 7) / 4))))) H := hP
    replace hD : va_D A (se_WS k h (se_u (se_u g 5 6 ((g 5 6) + (p1 - ((g 5 6) / 8)))) 5 7 ((g 5 7) + ((if 0 ≤ (p1 - ((g 5 6) / 8)) then (p1 - ((g 5 6) / 8)) else 0 - (p1 - ((g 5 6) / 8))) - ((g 5 7) / 4))))) := hD
    refine lv_goto (tgt := 70) hx hb dX4_learn_47 (by decide) ?_
    exact J70 (se_u (se_u g 5 6 ((g 5 6) + (p1 - ((g 5 6) / 8)))) 5 7 ((g 5 7) + ((if 0 ≤ (p1 - ((g 5 6) / 8)) then (p1 - ((g 5 6) / 8)) else 0 - (p1 - ((g 5 6) / 8))) - ((g 5 7) / 4)))) _ _ ls (by rw [F_S_Watch_learn, if_neg c1]) hP hD hS (lv_sub hl [1] rfl)
set_option maxRecDepth 100000 in
set_option maxHeartbeats 4000000 in
theorem c_S_Watch_endMeasure (l : Launch) (D : va_G) (k : Nat → ClassId) (h : Nat → Nat) (sz : Nat) (g : se_G) (p1 : Int32) : Met l yX4_endMeasure (se_w_X4_endMeasure) ({ frames := 2, cells := 0, slots := 0, locals := 43 }) (va_Pc [.ref (h 5), .int p1] (se_Pre D se_cl [(k 2, .byte), (k 4, .int), (k 8, .byte), (k 10, .byte)] (se_WS k h g) se_ZN sz)) (se_Qv D se_cl [(k 2, .byte), (k 4, .int), (k 8, .byte), (k 10, .byte)] (se_WS k h) (F_S_Watch_endMeasure g p1) (va_A (se_WS k h g) sz)) 0 0 (va_A (se_WS k h g) sz) := by
  refine se_met (Qc := se_Qv D se_cl [(k 2, .byte), (k 4, .int), (k 8, .byte), (k 10, .byte)] (se_WS k h) (F_S_Watch_endMeasure g p1)) (cc := cX4_endMeasure) (maxL := 2) (ret := none) (by decide) rfl (Nat.le_of_ble_eq_true rfl) ?_
  intro p e s m below meth c ls A hx hb hr hts hown hlocks hml hA hP hK hD hS hZ hl
  replace hl : lv_has ls 2 [(0, .ref (h 5)), (1, .int p1)] := hl
  have hF : F_S_Watch_endMeasure g p1 = F_S_Watch_endMeasure g p1 := rfl
  refine lv_aload_n hx hb dX4_endMeasure_0 rfl (lv_at hl 0 rfl) ?_
  refine va_get (D := D) (ci := 4) (v := .int (g 5 8)) (C := RX4) (T := TX4) (N := 11) hx hb hts (se_iw iwX4) hown hK hP 5 rfl rfl 8 (by decide) (hts _ (List.mem_cons_of_mem _ qX4_f32)) (fun _ h9 => h9) rfl dX4_endMeasure_1 ?_
  refine lv_if_eq (tgt := 36) hx hb dX4_endMeasure_4 (by decide) (fun c1 => ?_) (fun c1 => ?_)
  · exact se_rv hx hb hr hlocks hK hP hD hS dX4_endMeasure_36 (by rw [F_S_Watch_endMeasure, if_pos c1])
  · refine lv_aload_n hx hb dX4_endMeasure_7 rfl (lv_at hl 0 rfl) ?_
    refine va_get (D := D) (ci := 4) (v := .int (g 5 9)) (C := RX4) (T := TX4) (N := 11) hx hb hts (se_iw iwX4) hown hK hP 5 rfl rfl 9 (by decide) (hts _ (List.mem_cons_of_mem _ qX4_f35)) (fun _ h9 => h9) rfl dX4_endMeasure_8 ?_
    refine lv_iload_n hx hb dX4_endMeasure_11 rfl (lv_at hl 1 rfl) ?_
    refine se_cp (va_runSN (As := [.int (g 5 9), .int p1]) (rest := []) ⟨hx, hb, hml, hown, hts⟩ (c_S_isNotBehind l D k h _ g (g 5 9) p1) (se_kSN 2 hts q_code_X5_isNotBehind (hZ _ nX4_m53 rfl) q_ini_StreamEnd q_static_X5_isNotBehind (by decide +kernel) ⟨Nat.le_of_ble_eq_true rfl, Nat.le_of_ble_eq_true rfl⟩ rfl rfl) ⟨se_blind se_ZN_ok, se_pre se_ZN_ok hP hK hD hZ⟩ rfl rfl hl.1 rfl (lv_room (Nat.le_of_ble_eq_true rfl)) dX4_endMeasure_12 ⟨Nat.zero_le _, Nat.zero_le _⟩) hD hS hA (fun H locs hP hD hS => ?_)
    refine lv_if_eq (tgt := 36) hx hb dX4_endMeasure_15 (by decide) (fun c2 => ?_) (fun c2 => ?_)
    · exact se_rv hx hb hr hlocks hK hP hD hS dX4_endMeasure_36 (by rw [F_S_Watch_endMeasure, if_neg c1, if_pos c2])
    · refine lv_aload_n hx hb dX4_endMeasure_18 rfl (lv_at hl 0 rfl) ?_
      refine lv_iconst (v := 0) hx hb dX4_endMeasure_19 (by decide) ?_
      refine va_put (D := D) (ci := 4) (v := .int 0) (ty := .boolean) (C := RX4) (T := TX4) (N := 11) hx hb hts (se_iw iwX4) tyX4 tyX4_ok nmX4 hown hK hP hD hS 5 rfl rfl 8 (by decide) (hts _ (List.mem_cons_of_mem _ qX4_f32)) (fun _ h9 => h9) rfl (by decide +kernel) rfl rfl (Nat.le_of_ble_eq_true rfl) dX4_endMeasure_20 (fun H locs hP hD hS => ?_)
      replace hP : va_P D se_cl (se_WS k h (se_u g 5 8 0)) H := hP
      replace hD : va_D A (se_WS k h (se_u g 5 8 0)) := hD
      refine lv_aload_n hx hb dX4_endMeasure_23 rfl (lv_at hl 0 rfl) ?_
      refine lv_aload_n hx hb dX4_endMeasure_24 rfl (lv_at hl 0 rfl) ?_
      refine va_get (D := D) (ci := 4) (v := .int (g 5 0)) (C := RX4) (T := TX4) (N := 11) hx hb hts (se_iw iwX4) hown hK hP 5 rfl rfl 0 (by decide) (hts _ (List.mem_cons_of_mem _ qX4_f41)) (fun _ h9 => h9) rfl dX4_endMeasure_25 ?_
      refine lv_aload_n hx hb dX4_endMeasure_28 rfl (lv_at hl 0 rfl) ?_
      refine va_get (D := D) (ci := 4) (v := .int (g 5 10)) (C := RX4) (T := TX4) (N := 11) hx hb hts (se_iw iwX4) hown hK hP 5 rfl rfl 10 (by decide) (hts _ (List.mem_cons_of_mem _ qX4_f38)) (fun _ h9 => h9) rfl dX4_endMeasure_29 ?_
      refine lv_isub hx hb dX4_endMeasure_32 ?_
      refine se_cvE (va_runV (C := RX4) (As := [.int ((g 5 0) - (g 5 10))]) (rest := []) ⟨hx, hb, hml, hown, hts⟩ (c_S_Watch_learn l D k h _ (se_u g 5 8 0) ((g 5 0) - (g 5 10))) (se_kV 1 hts q_code_X4_learn qX4_m59 q_ini_StreamEnd_Watch q_instanceMethod_X4_learn q_sel_X4_learn (by decide +kernel) ⟨Nat.le_of_ble_eq_true rfl, Nat.le_of_ble_eq_true rfl⟩ rfl rfl) ⟨se_blind se_ZN_ok, va_recv hK hP (ci := 4) (q0 := 5) rfl rfl, se_pre se_ZN_ok hP hK hD hZ⟩ rfl rfl hl.1 rfl (lv_room (Nat.le_of_ble_eq_true rfl)) dX4_endMeasure_33 ⟨Nat.zero_le _, Nat.zero_le _⟩) hD hS hA (fun g1 H locs eg1 hP hD hS => ?_)
      exact se_rv hx hb hr hlocks hK hP hD hS dX4_endMeasure_36 (by subst eg1; rw [F_S_Watch_endMeasure, if_neg c1, if_neg c2])
set_option maxRecDepth 100000 in
set_option maxHeartbeats 4000000 in
theorem c_S_takeThanked (l : Launch) (D : va_G) (k : Nat → ClassId) (h : Nat → Nat) (sz : Nat) (g : se_G)  : Met l yX5_takeThanked (se_w_X5_takeThanked) ({ frames := 3, cells := 0, slots := 0, locals := 64 }) (va_Pc [.ref (h 0)] (se_Pre D se_cl [(k 2, .byte), (k 4, .int), (k 8, .byte), (k 10, .byte)] (se_WS k h g) se_ZN sz)) (se_Qv D se_cl [(k 2, .byte), (k 4, .int), (k 8, .byte), (k 10, .byte)] (se_WS k h) (F_S_takeThanked g) (va_A (se_WS k h g) sz)) 0 0 (va_A (se_WS k h g) sz) := by
  refine se_met (Qc := se_Qv D se_cl [(k 2, .byte), (k 4, .int), (k 8, .byte), (k 10, .byte)] (se_WS k h) (F_S_takeThanked g)) (cc := cX5_takeThanked) (maxL := 1) (ret := none) (by decide) rfl (Nat.le_of_ble_eq_true rfl) ?_
  intro p e s m below meth c ls A hx hb hr hts hown hlocks hml hA hP hK hD hS hZ hl
  replace hl : lv_has ls 1 [(0, .ref (h 0))] := hl
  have hF : F_S_takeThanked g = F_S_takeThanked g := rfl
  refine lv_aload_n hx hb dX5_takeThanked_0 rfl (lv_at hl 0 rfl) ?_
  refine va_get (D := D) (ci := 5) (v := .ref (h 1)) (C := RX5) (T := TX5) (N := 12) hx hb hts (se_iw iwX5) hown hK hP 0 rfl rfl 2 (by decide) (hts _ (List.mem_cons_of_mem _ qX5_f21)) (fun _ h9 => h9) rfl dX5_takeThanked_1 ?_
  refine lv_aload_n hx hb dX5_takeThanked_4 rfl (lv_at hl 0 rfl) ?_
  refine va_get (D := D) (ci := 5) (v := .ref (h 7)) (C := RX5) (T := TX5) (N := 12) hx hb hts (se_iw iwX5) hown hK hP 0 rfl rfl 6 (by decide) (hts _ (List.mem_cons_of_mem _ qX5_f49)) (fun _ h9 => h9) rfl dX5_takeThanked_5 ?_
  refine va_getN (D := D) (ci := 3) (v := .int (g 7 4)) (C := RX3) (T := TX3) (N := 7) hx hb hts (se_iw iwX3) hown hK hP 7 rfl rfl 4 (by decide) (va_Nw.use rfl (hZ _ nX5_f223 rfl)) (fun _ h9 => h9) rfl dX5_takeThanked_8 ?_
  refine se_cvE (va_runVN (C := RX2) (As := [.int (g 7 4)]) (rest := []) ⟨hx, hb, hml, hown, hts⟩ (c_S_Outgoing_thank l D k h _ g (g 7 4)) (se_kVN 1 hts q_code_X2_thank (hZ _ nX5_m423 rfl) q_ini_StreamEnd_Outgoing q_instanceMethod_X2_thank q_sel_X2_thank (by decide +kernel) ⟨Nat.le_of_ble_eq_true rfl, Nat.le_of_ble_eq_true rfl⟩ rfl rfl) ⟨se_blind se_ZN_ok, va_recv hK hP (ci := 2) (q0 := 1) rfl rfl, se_pre se_ZN_ok hP hK hD hZ⟩ rfl rfl hl.1 rfl (lv_room (Nat.le_of_ble_eq_true rfl)) dX5_takeThanked_11 ⟨Nat.zero_le _, Nat.zero_le _⟩) hD hS hA (fun g1 H locs eg1 hP hD hS => ?_)
  replace hF : (F_S_takeThanked_k2 (F_S_Outgoing_thank g (g 7 4))) = F_S_takeThanked g := by rw [F_S_takeThanked]
  rw [← eg1] at hF
  replace hF : F_S_takeThanked_k2 g1 = F_S_takeThanked g := hF
  refine lv_aload_n hx hb dX5_takeThanked_14 rfl (lv_at hl 0 rfl) ?_
  refine va_get (D := D) (ci := 5) (v := .ref (h 5)) (C := RX5) (T := TX5) (N := 12) hx hb hts (se_iw iwX5) hown hK hP 0 rfl rfl 4 (by decide) (hts _ (List.mem_cons_of_mem _ qX5_f35)) (fun _ h9 => h9) rfl dX5_takeThanked_15 ?_
  refine lv_aload_n hx hb dX5_takeThanked_18 rfl (lv_at hl 0 rfl) ?_
  refine va_get (D := D) (ci := 5) (v := .ref (h 7)) (C := RX5) (T := TX5) (N := 12) hx hb hts (se_iw iwX5) hown hK hP 0 rfl rfl 6 (by decide) (hts _ (List.mem_cons_of_mem _ qX5_f49)) (fun _ h9 => h9) rfl dX5_takeThanked_19 ?_
  refine va_getN (D := D) (ci := 3) (v := .int (g1 7 4)) (C := RX3) (T := TX3) (N := 7) hx hb hts (se_iw iwX3) hown hK hP 7 rfl rfl 4 (by decide) (va_Nw.use rfl (hZ _ nX5_f223 rfl)) (fun _ h9 => h9) rfl dX5_takeThanked_22 ?_
  refine se_cvE (va_runVN (C := RX4) (As := [.int (g1 7 4)]) (rest := []) ⟨hx, hb, hml, hown, hts⟩ (c_S_Watch_endMeasure l D k h _ g1 (g1 7 4)) (se_kVN 1 hts q_code_X4_endMeasure (hZ _ nX5_m426 rfl) q_ini_StreamEnd_Watch q_instanceMethod_X4_endMeasure q_sel_X4_endMeasure (by decide +kernel) ⟨Nat.le_of_ble_eq_true rfl, Nat.le_of_ble_eq_true rfl⟩ rfl rfl) ⟨se_blind se_ZN_ok, va_recv hK hP (ci := 4) (q0 := 5) rfl rfl, se_pre se_ZN_ok hP hK hD hZ⟩ rfl rfl hl.1 rfl (lv_room (Nat.le_of_ble_eq_true rfl)) dX5_takeThanked_25 ⟨Nat.zero_le _, Nat.zero_le _⟩) hD hS hA (fun g2 H locs eg2 hP hD hS => ?_)
  replace hF : (F_S_takeThanked_k1 (F_S_Watch_endMeasure g1 (g1 7 4))) = F_S_takeThanked g := by rw [← hF, F_S_takeThanked_k2]
  rw [← eg2] at hF
  replace hF : F_S_takeThanked_k1 g2 = F_S_takeThanked g := hF
  refine lv_aload_n hx hb dX5_takeThanked_28 rfl (lv_at hl 0 rfl) ?_
  refine va_get (D := D) (ci := 5) (v := .ref (h 5)) (C := RX5) (T := TX5) (N := 12) hx hb hts (se_iw iwX5) hown hK hP 0 rfl rfl 4 (by decide) (hts _ (List.mem_cons_of_mem _ qX5_f35)) (fun _ h9 => h9) rfl dX5_takeThanked_29 ?_
  refine lv_iconst (v := 0) hx hb dX5_takeThanked_32 (by decide) ?_
  refine va_putN (D := D) (ci := 4) (v := .int 0) (ty := .int) (C := RX4) (T := TX4) (N := 11) hx hb hts (se_iw iwX4) tyX4 tyX4_ok nmX4 hown hK hP hD hS 5 rfl rfl 3 (by decide) (va_Nw.use rfl (hZ _ nX5_f270 rfl)) (fun _ h9 => h9) rfl (by decide +kernel) rfl rfl (Nat.le_of_ble_eq_true rfl) dX5_takeThanked_33 (fun H locs hP hD hS => ?_)
  replace hP : va_P D se_cl (se_WS k h (se_u g2 5 3 0)) H := hP
  replace hD : va_D A (se_WS k h (se_u g2 5 3 0)) := hD
  refine lv_aload_n hx hb dX5_takeThanked_36 rfl (lv_at hl 0 rfl) ?_
  refine va_get (D := D) (ci := 5) (v := .ref (h 5)) (C := RX5) (T := TX5) (N := 12) hx hb hts (se_iw iwX5) hown hK hP 0 rfl rfl 4 (by decide) (hts _ (List.mem_cons_of_mem _ qX5_f35)) (fun _ h9 => h9) rfl dX5_takeThanked_37 ?_
  refine lv_iconst (v := 0) hx hb dX5_takeThanked_40 (by decide) ?_
  refine va_putN (D := D) (ci := 4) (v := .int 0) (ty := .boolean) (C := RX4) (T := TX4) (N := 11) hx hb hts (se_iw iwX4) tyX4 tyX4_ok nmX4 hown hK hP hD hS 5 rfl rfl 1 (by decide) (va_Nw.use rfl (hZ _ nX5_f155 rfl)) (fun _ h9 => h9) rfl (by decide +kernel) rfl rfl (Nat.le_of_ble_eq_true rfl) dX5_takeThanked_41 (fun H locs hP hD hS => ?_)
  replace hP : va_P D se_cl (se_WS k h (se_u (se_u g2 5 3 0) 5 1 0)) H := hP
  replace hD : va_D A (se_WS k h (se_u (se_u g2 5 3 0) 5 1 0)) := hD
  refine lv_aload_n hx hb dX5_takeThanked_44 rfl (lv_at hl 0 rfl) ?_
  refine va_get (D := D) (ci := 5) (v := .ref (h 1)) (C := RX5) (T := TX5) (N := 12) hx hb hts (se_iw iwX5) hown hK hP 0 rfl rfl 2 (by decide) (hts _ (List.mem_cons_of_mem _ qX5_f21)) (fun _ h9 => h9) rfl dX5_takeThanked_45 ?_
  refine se_cp (va_runVN (C := RX2) (As := []) (rest := []) ⟨hx, hb, hml, hown, hts⟩ (c_S_Outgoing_hasUnthanked l D k h _ (se_u (se_u g2 5 3 0) 5 1 0)) (se_kVN 0 hts q_code_X2_hasUnthanked (hZ _ nX5_m317 rfl) q_ini_StreamEnd_Outgoing q_instanceMethod_X2_hasUnthanked q_sel_X2_hasUnthanked (by decide +kernel) ⟨Nat.le_of_ble_eq_true rfl, Nat.le_of_ble_eq_true rfl⟩ rfl rfl) ⟨se_blind se_ZN_ok, va_recv hK hP (ci := 2) (q0 := 1) rfl rfl, se_pre se_ZN_ok hP hK hD hZ⟩ rfl rfl hl.1 rfl (lv_room (Nat.le_of_ble_eq_true rfl)) dX5_takeThanked_48 ⟨Nat.zero_le _, Nat.zero_le _⟩) hD hS hA (fun H locs hP hD hS => ?_)
  refine lv_if_eq (tgt := 61) hx hb dX5_takeThanked_51 (by decide) (fun c1 => ?_) (fun c1 => ?_)
  · refine lv_aload_n hx hb dX5_takeThanked_61 rfl (lv_at hl 0 rfl) ?_
    refine va_get (D := D) (ci := 5) (v := .ref (h 6)) (C := RX5) (T := TX5) (N := 12) hx hb hts (se_iw iwX5) hown hK hP 0 rfl rfl 5 (by decide) (hts _ (List.mem_cons_of_mem _ qX5_f42)) (fun _ h9 => h9) rfl dX5_takeThanked_62 ?_
    refine lv_iconst (v := 0) hx hb dX5_takeThanked_65 (by decide) ?_
    refine va_putN (D := D) (ci := 0) (v := .int 0) (ty := .boolean) (C := RX0) (T := TX0) (N := 9) hx hb hts (se_iw iwX0) tyX0 tyX0_ok nmX0 hown hK hP hD hS 6 rfl rfl 6 (by decide) (va_Nw.use rfl (hZ _ nX5_f179 rfl)) (fun _ h9 => h9) rfl (by decide +kernel) rfl rfl (Nat.le_of_ble_eq_true rfl) dX5_takeThanked_66 (fun H locs hP hD hS => ?_)
    replace hP : va_P D se_cl (se_WS k h (se_u (se_u (se_u g2 5 3 0) 5 1 0) 6 6 0)) H := hP
    replace hD : va_D A (se_WS k h (se_u (se_u (se_u g2 5 3 0) 5 1 0) 6 6 0)) := hD
    exact se_rv hx hb hr hlocks hK hP hD hS dX5_takeThanked_69 (by rw [← hF, F_S_takeThanked_k1, if_pos c1])
  · refine lv_aload_n hx hb dX5_takeThanked_54 rfl (lv_at hl 0 rfl) ?_
    refine va_get (D := D) (ci := 5) (v := .ref (h 5)) (C := RX5) (T := TX5) (N := 12) hx hb hts (se_iw iwX5) hown hK hP 0 rfl rfl 4 (by decide) (hts _ (List.mem_cons_of_mem _ qX5_f35)) (fun _ h9 => h9) rfl dX5_takeThanked_55 ?_
    refine se_cvE (va_runVN (C := RX4) (As := []) (rest := []) ⟨hx, hb, hml, hown, hts⟩ (c_S_Watch_setAlarm l D k h _ (se_u (se_u g2 5 3 0) 5 1 0)) (se_kVN 0 hts q_code_X4_setAlarm (hZ _ nX5_m323 rfl) q_ini_StreamEnd_Watch q_instanceMethod_X4_setAlarm q_sel_X4_setAlarm (by decide +kernel) ⟨Nat.le_of_ble_eq_true rfl, Nat.le_of_ble_eq_true rfl⟩ rfl rfl) ⟨se_blind se_ZN_ok, va_recv hK hP (ci := 4) (q0 := 5) rfl rfl, se_pre se_ZN_ok hP hK hD hZ⟩ rfl rfl hl.1 rfl (lv_room (Nat.le_of_ble_eq_true rfl)) dX5_takeThanked_58 ⟨Nat.zero_le _, Nat.zero_le _⟩) hD hS hA (fun g3 H locs eg3 hP hD hS => ?_)
    refine lv_aload_n hx hb dX5_takeThanked_61 rfl (lv_at hl 0 rfl) ?_
    refine va_get (D := D) (ci := 5) (v := .ref (h 6)) (C := RX5) (T := TX5) (N := 12) hx hb hts (se_iw iwX5) hown hK hP 0 rfl rfl 5 (by decide) (hts _ (List.mem_cons_of_mem _ qX5_f42)) (fun _ h9 => h9) rfl dX5_takeThanked_62 ?_
    refine lv_iconst (v := 0) hx hb dX5_takeThanked_65 (by decide) ?_
    refine va_putN (D := D) (ci := 0) (v := .int 0) (ty := .boolean) (C := RX0) (T := TX0) (N := 9) hx hb hts (se_iw iwX0) tyX0 tyX0_ok nmX0 hown hK hP hD hS 6 rfl rfl 6 (by decide) (va_Nw.use rfl (hZ _ nX5_f179 rfl)) (fun _ h9 => h9) rfl (by decide +kernel) rfl rfl (Nat.le_of_ble_eq_true rfl) dX5_takeThanked_66 (fun H locs hP hD hS => ?_)
    replace hP : va_P D se_cl (se_WS k h (se_u g3 6 6 0)) H := hP
    replace hD : va_D A (se_WS k h (se_u g3 6 6 0)) := hD
    exact se_rv hx hb hr hlocks hK hP hD hS dX5_takeThanked_69 (by subst eg3; rw [← hF, F_S_takeThanked_k1, if_neg c1])
end
section
/-! written by program (wip/gen) -/
set_option maxRecDepth 100000 in
set_option maxHeartbeats 4000000 in
theorem c_S_answerWithReset (l : Launch) (D : va_G) (k : Nat → ClassId) (h : Nat → Nat) (sz : Nat) (g : se_G)  : Met l yX5_answerWithReset (se_w_X5_answerWithReset) ({ frames := 2, cells := 0, slots := 0, locals := 41 }) (va_Pc [.ref (h 0)] (se_Pre D se_cl [(k 2, .byte), (k 4, .int), (k 8, .byte), (k 10, .byte)] (se_WS k h g) se_ZN sz)) (se_Qv D se_cl [(k 2, .byte), (k 4, .int), (k 8, .byte), (k 10, .byte)] (se_WS k h) (F_S_answerWithReset g) (va_A (se_WS k h g) sz)) 0 0 (va_A (se_WS k h g) sz) := by
  refine se_met (Qc := se_Qv D se_cl [(k 2, .byte), (k 4, .int), (k 8, .byte), (k 10, .byte)] (se_WS k h) (F_S_answerWithReset g)) (cc := cX5_answerWithReset) (maxL := 1) (ret := none) (by decide) rfl (Nat.le_of_ble_eq_true rfl) ?_
  intro p e s m below meth c ls A hx hb hr hts hown hlocks hml hA hP hK hD hS hZ hl
  replace hl : lv_has ls 1 [(0, .ref (h 0))] := hl
  have hF : F_S_answerWithReset g = F_S_answerWithReset g := rfl
  refine lv_aload_n hx hb dX5_answerWithReset_0 rfl (lv_at hl 0 rfl) ?_
  refine va_get (D := D) (ci := 5) (v := .ref (h 7)) (C := RX5) (T := TX5) (N := 12) hx hb hts (se_iw iwX5) hown hK hP 0 rfl rfl 6 (by decide) (hts _ (List.mem_cons_of_mem _ qX5_f49)) (fun _ h9 => h9) rfl dX5_answerWithReset_1 ?_
  refine lv_iconst (v := 4) hx hb dX5_answerWithReset_4 (by decide) ?_
  refine se_cp (va_runVN (C := RX3) (As := [.int 4]) (rest := []) ⟨hx, hb, hml, hown, hts⟩ (c_S_Segment_has_7 l D k h _ g 4) (se_kVN 1 hts q_code_X3_has (hZ _ nX5_m338 rfl) q_ini_StreamEnd_Segment q_instanceMethod_X3_has q_sel_X3_has (by decide +kernel) ⟨Nat.le_of_ble_eq_true rfl, Nat.le_of_ble_eq_true rfl⟩ rfl rfl) ⟨se_blind se_ZN_ok, va_recv hK hP (ci := 3) (q0 := 7) rfl rfl, se_pre se_ZN_ok hP hK hD hZ⟩ rfl rfl hl.1 rfl (lv_room (Nat.le_of_ble_eq_true rfl)) dX5_answerWithReset_5 ⟨Nat.zero_le _, Nat.zero_le _⟩) hD hS hA (fun H locs hP hD hS => ?_)
  refine lv_if_eq (tgt := 12) hx hb dX5_answerWithReset_8 (by decide) (fun c1 => ?_) (fun c1 => ?_)
  · refine lv_aload_n hx hb dX5_answerWithReset_12 rfl (lv_at hl 0 rfl) ?_
    refine va_get (D := D) (ci := 5) (v := .ref (h 7)) (C := RX5) (T := TX5) (N := 12) hx hb hts (se_iw iwX5) hown hK hP 0 rfl rfl 6 (by decide) (hts _ (List.mem_cons_of_mem _ qX5_f49)) (fun _ h9 => h9) rfl dX5_answerWithReset_13 ?_
    refine lv_bipush (v := 8) hx hb dX5_answerWithReset_16 (by decide) ?_
    refine se_cp (va_runVN (C := RX3) (As := [.int 8]) (rest := []) ⟨hx, hb, hml, hown, hts⟩ (c_S_Segment_has_7 l D k h _ g 8) (se_kVN 1 hts q_code_X3_has (hZ _ nX5_m338 rfl) q_ini_StreamEnd_Segment q_instanceMethod_X3_has q_sel_X3_has (by decide +kernel) ⟨Nat.le_of_ble_eq_true rfl, Nat.le_of_ble_eq_true rfl⟩ rfl rfl) ⟨se_blind se_ZN_ok, va_recv hK hP (ci := 3) (q0 := 7) rfl rfl, se_pre se_ZN_ok hP hK hD hZ⟩ rfl rfl hl.1 rfl (lv_room (Nat.le_of_ble_eq_true rfl)) dX5_answerWithReset_18 ⟨Nat.zero_le _, Nat.zero_le _⟩) hD hS hA (fun H locs hP hD hS => ?_)
    refine lv_if_eq (tgt := 43) hx hb dX5_answerWithReset_21 (by decide) (fun c2 => ?_) (fun c2 => ?_)
    · refine lv_aload_n hx hb dX5_answerWithReset_43 rfl (lv_at hl 0 rfl) ?_
      refine va_get (D := D) (ci := 5) (v := .ref (h 6)) (C := RX5) (T := TX5) (N := 12) hx hb hts (se_iw iwX5) hown hK hP 0 rfl rfl 5 (by decide) (hts _ (List.mem_cons_of_mem _ qX5_f42)) (fun _ h9 => h9) rfl dX5_answerWithReset_44 ?_
      refine lv_bipush (v := 12) hx hb dX5_answerWithReset_47 (by decide) ?_
      refine lv_iconst (v := 0) hx hb dX5_answerWithReset_49 (by decide) ?_
      refine lv_aload_n hx hb dX5_answerWithReset_50 rfl (lv_at hl 0 rfl) ?_
      refine va_get (D := D) (ci := 5) (v := .ref (h 7)) (C := RX5) (T := TX5) (N := 12) hx hb hts (se_iw iwX5) hown hK hP 0 rfl rfl 6 (by decide) (hts _ (List.mem_cons_of_mem _ qX5_f49)) (fun _ h9 => h9) rfl dX5_answerWithReset_51 ?_
      refine va_getN (D := D) (ci := 3) (v := .int (g 7 3)) (C := RX3) (T := TX3) (N := 7) hx hb hts (se_iw iwX3) hown hK hP 7 rfl rfl 3 (by decide) (va_Nw.use rfl (hZ _ nX5_f220 rfl)) (fun _ h9 => h9) rfl dX5_answerWithReset_54 ?_
      refine lv_aload_n hx hb dX5_answerWithReset_57 rfl (lv_at hl 0 rfl) ?_
      refine va_get (D := D) (ci := 5) (v := .ref (h 7)) (C := RX5) (T := TX5) (N := 12) hx hb hts (se_iw iwX5) hown hK hP 0 rfl rfl 6 (by decide) (hts _ (List.mem_cons_of_mem _ qX5_f49)) (fun _ h9 => h9) rfl dX5_answerWithReset_58 ?_
      refine se_cp (va_runVN (C := RX3) (As := []) (rest := [.int (g 7 3), .int 0, .int 12, .ref (h 6)]) ⟨hx, hb, hml, hown, hts⟩ (c_S_Segment_size_7 l D k h _ g) (se_kVN 0 hts q_code_X3_size (hZ _ nX5_m381 rfl) q_ini_StreamEnd_Segment q_instanceMethod_X3_size q_sel_X3_size (by decide +kernel) ⟨Nat.le_of_ble_eq_true rfl, Nat.le_of_ble_eq_true rfl⟩ rfl rfl) ⟨se_blind se_ZN_ok, va_recv hK hP (ci := 3) (q0 := 7) rfl rfl, se_pre se_ZN_ok hP hK hD hZ⟩ rfl rfl hl.1 rfl (lv_room (Nat.le_of_ble_eq_true rfl)) dX5_answerWithReset_61 ⟨Nat.zero_le _, Nat.zero_le _⟩) hD hS hA (fun H locs hP hD hS => ?_)
      refine lv_iadd hx hb dX5_answerWithReset_64 ?_
      refine se_cvE (va_runVN (C := RX0) (As := [.int 12, .int 0, .int ((g 7 3) + (F_S_Segment_size_7 g))]) (rest := []) ⟨hx, hb, hml, hown, hts⟩ (c_S_Due_resetIs l D k h _ g 12 0 ((g 7 3) + (F_S_Segment_size_7 g))) (se_kVN 3 hts q_code_X0_resetIs (hZ _ nX5_m143 rfl) q_ini_StreamEnd_Due q_instanceMethod_X0_resetIs q_sel_X0_resetIs (by decide +kernel) ⟨Nat.le_of_ble_eq_true rfl, Nat.le_of_ble_eq_true rfl⟩ rfl rfl) ⟨se_blind se_ZN_ok, va_recv hK hP (ci := 0) (q0 := 6) rfl rfl, se_pre se_ZN_ok hP hK hD hZ⟩ rfl rfl hl.1 rfl (lv_room (Nat.le_of_ble_eq_true rfl)) dX5_answerWithReset_65 ⟨Nat.zero_le _, Nat.zero_le _⟩) hD hS hA (fun g1 H locs eg1 hP hD hS => ?_)
      exact se_rv hx hb hr hlocks hK hP hD hS dX5_answerWithReset_68 (by subst eg1; rw [F_S_answerWithReset, if_pos c1, if_pos c2])
    · refine lv_aload_n hx hb dX5_answerWithReset_24 rfl (lv_at hl 0 rfl) ?_
      refine va_get (D := D) (ci := 5) (v := .ref (h 6)) (C := RX5) (T := TX5) (N := 12) hx hb hts (se_iw iwX5) hown hK hP 0 rfl rfl 5 (by decide) (hts _ (List.mem_cons_of_mem _ qX5_f42)) (fun _ h9 => h9) rfl dX5_answerWithReset_25 ?_
      refine lv_iconst (v := 4) hx hb dX5_answerWithReset_28 (by decide) ?_
      refine lv_aload_n hx hb dX5_answerWithReset_29 rfl (lv_at hl 0 rfl) ?_
      refine va_get (D := D) (ci := 5) (v := .ref (h 7)) (C := RX5) (T := TX5) (N := 12) hx hb hts (se_iw iwX5) hown hK hP 0 rfl rfl 6 (by decide) (hts _ (List.mem_cons_of_mem _ qX5_f49)) (fun _ h9 => h9) rfl dX5_answerWithReset_30 ?_
      refine va_getN (D := D) (ci := 3) (v := .int (g 7 4)) (C := RX3) (T := TX3) (N := 7) hx hb hts (se_iw iwX3) hown hK hP 7 rfl rfl 4 (by decide) (va_Nw.use rfl (hZ _ nX5_f223 rfl)) (fun _ h9 => h9) rfl dX5_answerWithReset_33 ?_
      refine lv_iconst (v := 0) hx hb dX5_answerWithReset_36 (by decide) ?_
      refine se_cvE (va_runVN (C := RX0) (As := [.int 4, .int (g 7 4), .int 0]) (rest := []) ⟨hx, hb, hml, hown, hts⟩ (c_S_Due_resetIs l D k h _ g 4 (g 7 4) 0) (se_kVN 3 hts q_code_X0_resetIs (hZ _ nX5_m143 rfl) q_ini_StreamEnd_Due q_instanceMethod_X0_resetIs q_sel_X0_resetIs (by decide +kernel) ⟨Nat.le_of_ble_eq_true rfl, Nat.le_of_ble_eq_true rfl⟩ rfl rfl) ⟨se_blind se_ZN_ok, va_recv hK hP (ci := 0) (q0 := 6) rfl rfl, se_pre se_ZN_ok hP hK hD hZ⟩ rfl rfl hl.1 rfl (lv_room (Nat.le_of_ble_eq_true rfl)) dX5_answerWithReset_37 ⟨Nat.zero_le _, Nat.zero_le _⟩) hD hS hA (fun g2 H locs eg2 hP hD hS => ?_)
      refine lv_goto (tgt := 68) hx hb dX5_answerWithReset_40 (by decide) ?_
      exact se_rv hx hb hr hlocks hK hP hD hS dX5_answerWithReset_68 (by subst eg2; rw [F_S_answerWithReset, if_pos c1, if_neg c2])
  · exact se_rv hx hb hr hlocks hK hP hD hS dX5_answerWithReset_11 (by rw [F_S_answerWithReset, if_neg c1])
set_option maxRecDepth 100000 in
set_option maxHeartbeats 4000000 in
theorem c_S_takeInStream (l : Launch) (D : va_G) (k : Nat → ClassId) (h : Nat → Nat) (sz : Nat) (g : se_G)  (hI : (g 7 1).toInt ≤ 1460) : Met l yX5_takeInStream (se_w_X5_takeInStream) ({ frames := 4, cells := 0, slots := 0, locals := 84 }) (va_Pc [.ref (h 0)] (se_Pre D se_cl [(k 2, .byte), (k 4, .int), (k 8, .byte), (k 10, .byte)] (se_WS k h g) se_ZN sz)) (se_Qv D se_cl [(k 2, .byte), (k 4, .int), (k 8, .byte), (k 10, .byte)] (se_WS k h) (F_S_takeInStream g) (va_A (se_WS k h g) sz)) 0 0 (va_A (se_WS k h g) sz) := by
  refine se_met (Qc := se_Qv D se_cl [(k 2, .byte), (k 4, .int), (k 8, .byte), (k 10, .byte)] (se_WS k h) (F_S_takeInStream g)) (cc := cX5_takeInStream) (maxL := 1) (ret := none) (by decide) rfl (Nat.le_of_ble_eq_true rfl) ?_
  intro p e s m below meth c ls A hx hb hr hts hown hlocks hml hA hP hK hD hS hZ hl
  replace hl : lv_has ls 1 [(0, .ref (h 0))] := hl
  have J113 : ∀ (gj113 : se_G) (H : Heap) (locs : List Loc) (ls : Array Slot), ((gj113 7 1).toInt ≤ 1460) → F_S_takeInStream_j113 gj113 = F_S_takeInStream g → va_P D se_cl (se_WS k h gj113) H → va_D A (se_WS k h gj113) → va_S A s.heap H locs → lv_has ls 1 [(0, .ref (h 0))] → W p l e ({ frames := 4, cells := 0, slots := 0, locals := 84 }) s m [.ref (h 0)].toArray below meth c H locs 0 0 (MQ below (se_Qv D se_cl [(k 2, .byte), (k 4, .int), (k 8, .byte), (k 10, .byte)] (se_WS k h) (F_S_takeInStream g) A) [.ref (h 0)].toArray s 0 0 A) (F0 m 113 ls []) := by
    intro gj113 H locs ls hI hF hP hD hS hl
    refine lv_aload_n hx hb dX5_takeInStream_113 rfl (lv_at hl 0 rfl) ?_
    refine se_cvE (va_runV (C := RX5) (As := []) (rest := []) ⟨hx, hb, hml, hown, hts⟩ (c_S_takeWindow l D k h _ gj113) (se_kV 0 hts q_code_X5_takeWindow qX5_m411 q_ini_StreamEnd q_instanceMethod_X5_takeWindow q_sel_X5_takeWindow (by decide +kernel) ⟨Nat.le_of_ble_eq_true rfl, Nat.le_of_ble_eq_true rfl⟩ rfl rfl) ⟨se_blind se_ZN_ok, va_recv hK hP (ci := 5) (q0 := 0) rfl rfl, se_pre se_ZN_ok hP hK hD hZ⟩ rfl rfl hl.1 rfl (lv_room (Nat.le_of_ble_eq_true rfl)) dX5_takeInStream_114 ⟨Nat.zero_le _, Nat.zero_le _⟩) hD hS hA (fun g1 H locs eg1 hP hD hS => ?_)
    replace hF : (F_S_takeInStream_k2 (F_S_takeWindow gj113)) = F_S_takeInStream g := by rw [← hF, F_S_takeInStream_j113]
    rw [← eg1] at hF
    replace hF : F_S_takeInStream_k2 g1 = F_S_takeInStream g := hF
    replace hI : (g1 7 1).toInt ≤ 1460 := by rw [eg1]; exact (by first | exact hI | (simp only [kp_takeThanked, kp_takeWindow, kp_leave]; exact hI))
    refine lv_aload_n hx hb dX5_takeInStream_117 rfl (lv_at hl 0 rfl) ?_
    refine va_get (D := D) (ci := 5) (v := .ref (h 1)) (C := RX5) (T := TX5) (N := 12) hx hb hts (se_iw iwX5) hown hK hP 0 rfl rfl 2 (by decide) (hts _ (List.mem_cons_of_mem _ qX5_f21)) (fun _ h9 => h9) rfl dX5_takeInStream_118 ?_
    refine se_cp (va_runVN (C := RX2) (As := []) (rest := []) ⟨hx, hb, hml, hown, hts⟩ (c_S_Outgoing_lastIsThanked l D k h _ g1) (se_kVN 0 hts q_code_X2_lastIsThanked (hZ _ nX5_m414 rfl) q_ini_StreamEnd_Outgoing q_instanceMethod_X2_lastIsThanked q_sel_X2_lastIsThanked (by decide +kernel) ⟨Nat.le_of_ble_eq_true rfl, Nat.le_of_ble_eq_true rfl⟩ rfl rfl) ⟨se_blind se_ZN_ok, va_recv hK hP (ci := 2) (q0 := 1) rfl rfl, se_pre se_ZN_ok hP hK hD hZ⟩ rfl rfl hl.1 rfl (lv_room (Nat.le_of_ble_eq_true rfl)) dX5_takeInStream_121 ⟨Nat.zero_le _, Nat.zero_le _⟩) hD hS hA (fun H locs hP hD hS => ?_)
    refine lv_if_eq (tgt := 131) hx hb dX5_takeInStream_124 (by decide) (fun c4 => ?_) (fun c4 => ?_)
    · refine lv_aload_n hx hb dX5_takeInStream_131 rfl (lv_at hl 0 rfl) ?_
      refine va_get (D := D) (ci := 5) (v := .int (g1 0 9)) (C := RX5) (T := TX5) (N := 12) hx hb hts (se_iw iwX5) hown hK hP 0 rfl rfl 9 (by decide) (hts _ (List.mem_cons_of_mem _ qX5_f60)) (fun _ h9 => h9) rfl dX5_takeInStream_132 ?_
      refine lv_if_eq (tgt := 142) hx hb dX5_takeInStream_135 (by decide) (fun c5 => ?_) (fun c5 => ?_)
      · exact se_rv hx hb hr hlocks hK hP hD hS dX5_takeInStream_142 (by rw [← hF, F_S_takeInStream_k2, if_pos c4, if_pos c5])
      · refine lv_aload_n hx hb dX5_takeInStream_138 rfl (lv_at hl 0 rfl) ?_
        refine se_cvE (va_runV (C := RX5) (As := []) (rest := []) ⟨hx, hb, hml, hown, hts⟩ (c_S_takeBytes l D k h _ g1 (by first | exact hI | (simp only [kp_takeThanked, kp_takeWindow, kp_leave]; exact hI))) (se_kV 0 hts q_code_X5_takeBytes qX5_m420 q_ini_StreamEnd q_instanceMethod_X5_takeBytes q_sel_X5_takeBytes (by decide +kernel) ⟨Nat.le_of_ble_eq_true rfl, Nat.le_of_ble_eq_true rfl⟩ rfl rfl) ⟨se_blind se_ZN_ok, va_recv hK hP (ci := 5) (q0 := 0) rfl rfl, se_pre se_ZN_ok hP hK hD hZ⟩ rfl rfl hl.1 rfl (lv_room (Nat.le_of_ble_eq_true rfl)) dX5_takeInStream_139 ⟨Nat.zero_le _, Nat.zero_le _⟩) hD hS hA (fun g2 H locs eg2 hP hD hS => ?_)
        exact se_rv hx hb hr hlocks hK hP hD hS dX5_takeInStream_142 (by subst eg2; rw [← hF, F_S_takeInStream_k2, if_pos c4, if_neg c5])
    · refine lv_aload_n hx hb dX5_takeInStream_127 rfl (lv_at hl 0 rfl) ?_
      refine se_cvE (va_runV (C := RX5) (As := []) (rest := []) ⟨hx, hb, hml, hown, hts⟩ (c_S_leave l D k h _ g1) (se_kV 0 hts q_code_X5_leave qX5_m417 q_ini_StreamEnd q_instanceMethod_X5_leave q_sel_X5_leave (by decide +kernel) ⟨Nat.le_of_ble_eq_true rfl, Nat.le_of_ble_eq_true rfl⟩ rfl rfl) ⟨se_blind se_ZN_ok, va_recv hK hP (ci := 5) (q0 := 0) rfl rfl, se_pre se_ZN_ok hP hK hD hZ⟩ rfl rfl hl.1 rfl (lv_room (Nat.le_of_ble_eq_true rfl)) dX5_takeInStream_128 ⟨Nat.zero_le _, Nat.zero_le _⟩) hD hS hA (fun g3 H locs eg3 hP hD hS => ?_)
      replace hF : (F_S_takeInStream_k1 (F_S_leave g1)) = F_S_takeInStream g := by rw [← hF, F_S_takeInStream_k2, if_neg c4]
      rw [← eg3] at hF
      replace hF : F_S_takeInStream_k1 g3 = F_S_takeInStream g := hF
      replace hI : (g3 7 1).toInt ≤ 1460 := by rw [eg3]; exact (by first | exact hI | (simp only [kp_takeThanked, kp_takeWindow, kp_leave]; exact hI))
      refine lv_aload_n hx hb dX5_takeInStream_131 rfl (lv_at hl 0 rfl) ?_
      refine va_get (D := D) (ci := 5) (v := .int (g3 0 9)) (C := RX5) (T := TX5) (N := 12) hx hb hts (se_iw iwX5) hown hK hP 0 rfl rfl 9 (by decide) (hts _ (List.mem_cons_of_mem _ qX5_f60)) (fun _ h9 => h9) rfl dX5_takeInStream_132 ?_
      refine lv_if_eq (tgt := 142) hx hb dX5_takeInStream_135 (by decide) (fun c6 => ?_) (fun c6 => ?_)
      · exact se_rv hx hb hr hlocks hK hP hD hS dX5_takeInStream_142 (by rw [← hF, F_S_takeInStream_k1, if_pos c6])
      · refine lv_aload_n hx hb dX5_takeInStream_138 rfl (lv_at hl 0 rfl) ?_
        refine se_cvE (va_runV (C := RX5) (As := []) (rest := []) ⟨hx, hb, hml, hown, hts⟩ (c_S_takeBytes l D k h _ g3 (by first | exact hI | (simp only [kp_takeThanked, kp_takeWindow, kp_leave]; exact hI))) (se_kV 0 hts q_code_X5_takeBytes qX5_m420 q_ini_StreamEnd q_instanceMethod_X5_takeBytes q_sel_X5_takeBytes (by decide +kernel) ⟨Nat.le_of_ble_eq_true rfl, Nat.le_of_ble_eq_true rfl⟩ rfl rfl) ⟨se_blind se_ZN_ok, va_recv hK hP (ci := 5) (q0 := 0) rfl rfl, se_pre se_ZN_ok hP hK hD hZ⟩ rfl rfl hl.1 rfl (lv_room (Nat.le_of_ble_eq_true rfl)) dX5_takeInStream_139 ⟨Nat.zero_le _, Nat.zero_le _⟩) hD hS hA (fun g4 H locs eg4 hP hD hS => ?_)
        exact se_rv hx hb hr hlocks hK hP hD hS dX5_takeInStream_142 (by subst eg4; rw [← hF, F_S_takeInStream_k1, if_neg c6])
  have J89 : ∀ (gj89 : se_G) (H : Heap) (locs : List Loc) (ls : Array Slot), ((gj89 7 1).toInt ≤ 1460) → F_S_takeInStream_j89 gj89 = F_S_takeInStream g → va_P D se_cl (se_WS k h gj89) H → va_D A (se_WS k h gj89) → va_S A s.heap H locs → lv_has ls 1 [(0, .ref (h 0))] → W p l e ({ frames := 4, cells := 0, slots := 0, locals := 84 }) s m [.ref (h 0)].toArray below meth c H locs 0 0 (MQ below (se_Qv D se_cl [(k 2, .byte), (k 4, .int), (k 8, .byte), (k 10, .byte)] (se_WS k h) (F_S_takeInStream g) A) [.ref (h 0)].toArray s 0 0 A) (F0 m 89 ls []) := by
    intro gj89 H locs ls hI hF hP hD hS hl
    refine lv_aload_n hx hb dX5_takeInStream_89 rfl (lv_at hl 0 rfl) ?_
    refine va_get (D := D) (ci := 5) (v := .ref (h 1)) (C := RX5) (T := TX5) (N := 12) hx hb hts (se_iw iwX5) hown hK hP 0 rfl rfl 2 (by decide) (hts _ (List.mem_cons_of_mem _ qX5_f21)) (fun _ h9 => h9) rfl dX5_takeInStream_90 ?_
    refine va_getN (D := D) (ci := 2) (v := .int (gj89 1 5)) (C := RX2) (T := TX2) (N := 13) hx hb hts (se_iw iwX2) hown hK hP 1 rfl rfl 5 (by decide) (va_Nw.use rfl (hZ _ nX5_f259 rfl)) (fun _ h9 => h9) rfl dX5_takeInStream_93 ?_
    refine lv_aload_n hx hb dX5_takeInStream_96 rfl (lv_at hl 0 rfl) ?_
    refine va_get (D := D) (ci := 5) (v := .ref (h 7)) (C := RX5) (T := TX5) (N := 12) hx hb hts (se_iw iwX5) hown hK hP 0 rfl rfl 6 (by decide) (hts _ (List.mem_cons_of_mem _ qX5_f49)) (fun _ h9 => h9) rfl dX5_takeInStream_97 ?_
    refine va_getN (D := D) (ci := 3) (v := .int (gj89 7 4)) (C := RX3) (T := TX3) (N := 7) hx hb hts (se_iw iwX3) hown hK hP 7 rfl rfl 4 (by decide) (va_Nw.use rfl (hZ _ nX5_f223 rfl)) (fun _ h9 => h9) rfl dX5_takeInStream_100 ?_
    refine se_cp (va_runS (As := [.int (gj89 1 5), .int (gj89 7 4)]) (rest := []) ⟨hx, hb, hml, hown, hts⟩ (c_S_isBefore l D k h _ gj89 (gj89 1 5) (gj89 7 4)) (se_kS 2 hts q_code_X5_isBefore qX5_m408 q_ini_StreamEnd q_static_X5_isBefore (by decide +kernel) ⟨Nat.le_of_ble_eq_true rfl, Nat.le_of_ble_eq_true rfl⟩ rfl rfl) ⟨se_blind se_ZN_ok, se_pre se_ZN_ok hP hK hD hZ⟩ rfl rfl hl.1 rfl (lv_room (Nat.le_of_ble_eq_true rfl)) dX5_takeInStream_103 ⟨Nat.zero_le _, Nat.zero_le _⟩) hD hS hA (fun H locs hP hD hS => ?_)
    refine lv_if_eq (tgt := 113) hx hb dX5_takeInStream_106 (by decide) (fun c3 => ?_) (fun c3 => ?_)
    · exact J113 gj89 _ _ ls (by first | exact hI | (simp only [kp_takeThanked, kp_takeWindow, kp_leave]; exact hI)) (by rw [← hF, F_S_takeInStream_j89, if_pos c3]) hP hD hS (lv_sub hl [0] rfl)
    · refine lv_aload_n hx hb dX5_takeInStream_109 rfl (lv_at hl 0 rfl) ?_
      refine se_cvE (va_runV (C := RX5) (As := []) (rest := []) ⟨hx, hb, hml, hown, hts⟩ (c_S_takeThanked l D k h _ gj89) (se_kV 0 hts q_code_X5_takeThanked qX5_m400 q_ini_StreamEnd q_instanceMethod_X5_takeThanked q_sel_X5_takeThanked (by decide +kernel) ⟨Nat.le_of_ble_eq_true rfl, Nat.le_of_ble_eq_true rfl⟩ rfl rfl) ⟨se_blind se_ZN_ok, va_recv hK hP (ci := 5) (q0 := 0) rfl rfl, se_pre se_ZN_ok hP hK hD hZ⟩ rfl rfl hl.1 rfl (lv_room (Nat.le_of_ble_eq_true rfl)) dX5_takeInStream_110 ⟨Nat.zero_le _, Nat.zero_le _⟩) hD hS hA (fun g5 H locs eg5 hP hD hS => ?_)
      exact J113 g5 _ _ ls (by subst eg5; exact (by first | exact hI | (simp only [kp_takeThanked, kp_takeWindow, kp_leave]; exact hI))) (by subst eg5; rw [← hF, F_S_takeInStream_j89, if_neg c3]) hP hD hS (lv_sub hl [0] rfl)
  have hF : F_S_takeInStream g = F_S_takeInStream g := rfl
  refine lv_aload_n hx hb dX5_takeInStream_0 rfl (lv_at hl 0 rfl) ?_
  refine va_get (D := D) (ci := 5) (v := .int (g 0 9)) (C := RX5) (T := TX5) (N := 12) hx hb hts (se_iw iwX5) hown hK hP 0 rfl rfl 9 (by decide) (hts _ (List.mem_cons_of_mem _ qX5_f60)) (fun _ h9 => h9) rfl dX5_takeInStream_1 ?_
  refine lv_iconst (v := 3) hx hb dX5_takeInStream_4 (by decide) ?_
  refine lv_icmp_ne (tgt := 60) hx hb dX5_takeInStream_5 (by decide) (fun c1 => ?_) (fun c1 => ?_)
  · refine lv_aload_n hx hb dX5_takeInStream_60 rfl (lv_at hl 0 rfl) ?_
    refine va_get (D := D) (ci := 5) (v := .ref (h 1)) (C := RX5) (T := TX5) (N := 12) hx hb hts (se_iw iwX5) hown hK hP 0 rfl rfl 2 (by decide) (hts _ (List.mem_cons_of_mem _ qX5_f21)) (fun _ h9 => h9) rfl dX5_takeInStream_61 ?_
    refine va_getN (D := D) (ci := 2) (v := .int (g 1 6)) (C := RX2) (T := TX2) (N := 13) hx hb hts (se_iw iwX2) hown hK hP 1 rfl rfl 6 (by decide) (va_Nw.use rfl (hZ _ nX5_f137 rfl)) (fun _ h9 => h9) rfl dX5_takeInStream_64 ?_
    refine lv_aload_n hx hb dX5_takeInStream_67 rfl (lv_at hl 0 rfl) ?_
    refine va_get (D := D) (ci := 5) (v := .ref (h 7)) (C := RX5) (T := TX5) (N := 12) hx hb hts (se_iw iwX5) hown hK hP 0 rfl rfl 6 (by decide) (hts _ (List.mem_cons_of_mem _ qX5_f49)) (fun _ h9 => h9) rfl dX5_takeInStream_68 ?_
    refine va_getN (D := D) (ci := 3) (v := .int (g 7 4)) (C := RX3) (T := TX3) (N := 7) hx hb hts (se_iw iwX3) hown hK hP 7 rfl rfl 4 (by decide) (va_Nw.use rfl (hZ _ nX5_f223 rfl)) (fun _ h9 => h9) rfl dX5_takeInStream_71 ?_
    refine se_cp (va_runS (As := [.int (g 1 6), .int (g 7 4)]) (rest := []) ⟨hx, hb, hml, hown, hts⟩ (c_S_isBefore l D k h _ g (g 1 6) (g 7 4)) (se_kS 2 hts q_code_X5_isBefore qX5_m408 q_ini_StreamEnd q_static_X5_isBefore (by decide +kernel) ⟨Nat.le_of_ble_eq_true rfl, Nat.le_of_ble_eq_true rfl⟩ rfl rfl) ⟨se_blind se_ZN_ok, se_pre se_ZN_ok hP hK hD hZ⟩ rfl rfl hl.1 rfl (lv_room (Nat.le_of_ble_eq_true rfl)) dX5_takeInStream_74 ⟨Nat.zero_le _, Nat.zero_le _⟩) hD hS hA (fun H locs hP hD hS => ?_)
    refine lv_if_eq (tgt := 89) hx hb dX5_takeInStream_77 (by decide) (fun c2 => ?_) (fun c2 => ?_)
    · exact J89 g _ _ ls (by first | exact hI | (simp only [kp_takeThanked, kp_takeWindow, kp_leave]; exact hI)) (by rw [F_S_takeInStream, if_neg c1, if_pos c2]) hP hD hS (lv_sub hl [0] rfl)
    · refine lv_aload_n hx hb dX5_takeInStream_80 rfl (lv_at hl 0 rfl) ?_
      refine va_get (D := D) (ci := 5) (v := .ref (h 6)) (C := RX5) (T := TX5) (N := 12) hx hb hts (se_iw iwX5) hown hK hP 0 rfl rfl 5 (by decide) (hts _ (List.mem_cons_of_mem _ qX5_f42)) (fun _ h9 => h9) rfl dX5_takeInStream_81 ?_
      refine lv_iconst (v := 1) hx hb dX5_takeInStream_84 (by decide) ?_
      refine va_putN (D := D) (ci := 0) (v := .int 1) (ty := .boolean) (C := RX0) (T := TX0) (N := 9) hx hb hts (se_iw iwX0) tyX0 tyX0_ok nmX0 hown hK hP hD hS 6 rfl rfl 8 (by decide) (va_Nw.use rfl (hZ _ nX5_f206 rfl)) (fun _ h9 => h9) rfl (by decide +kernel) rfl rfl (Nat.le_of_ble_eq_true rfl) dX5_takeInStream_85 (fun H locs hP hD hS => ?_)
      replace hP : va_P D se_cl (se_WS k h (se_u g 6 8 1)) H := hP
      replace hD : va_D A (se_WS k h (se_u g 6 8 1)) := hD
      exact se_rv hx hb hr hlocks hK hP hD hS dX5_takeInStream_88 (by rw [F_S_takeInStream, if_neg c1, if_neg c2])
  · refine lv_aload_n hx hb dX5_takeInStream_8 rfl (lv_at hl 0 rfl) ?_
    refine va_get (D := D) (ci := 5) (v := .ref (h 7)) (C := RX5) (T := TX5) (N := 12) hx hb hts (se_iw iwX5) hown hK hP 0 rfl rfl 6 (by decide) (hts _ (List.mem_cons_of_mem _ qX5_f49)) (fun _ h9 => h9) rfl dX5_takeInStream_9 ?_
    refine va_getN (D := D) (ci := 3) (v := .int (g 7 4)) (C := RX3) (T := TX3) (N := 7) hx hb hts (se_iw iwX3) hown hK hP 7 rfl rfl 4 (by decide) (va_Nw.use rfl (hZ _ nX5_f223 rfl)) (fun _ h9 => h9) rfl dX5_takeInStream_12 ?_
    refine lv_aload_n hx hb dX5_takeInStream_15 rfl (lv_at hl 0 rfl) ?_
    refine va_get (D := D) (ci := 5) (v := .ref (h 1)) (C := RX5) (T := TX5) (N := 12) hx hb hts (se_iw iwX5) hown hK hP 0 rfl rfl 2 (by decide) (hts _ (List.mem_cons_of_mem _ qX5_f21)) (fun _ h9 => h9) rfl dX5_takeInStream_16 ?_
    refine va_getN (D := D) (ci := 2) (v := .int (g 1 6)) (C := RX2) (T := TX2) (N := 13) hx hb hts (se_iw iwX2) hown hK hP 1 rfl rfl 6 (by decide) (va_Nw.use rfl (hZ _ nX5_f137 rfl)) (fun _ h9 => h9) rfl dX5_takeInStream_19 ?_
    refine lv_icmp_eq (tgt := 30) hx hb dX5_takeInStream_22 (by decide) (fun c7 => ?_) (fun c7 => ?_)
    · refine lv_aload_n hx hb dX5_takeInStream_30 rfl (lv_at hl 0 rfl) ?_
      refine lv_aload_n hx hb dX5_takeInStream_31 rfl (lv_at hl 0 rfl) ?_
      refine va_get (D := D) (ci := 5) (v := .ref (h 1)) (C := RX5) (T := TX5) (N := 12) hx hb hts (se_iw iwX5) hown hK hP 0 rfl rfl 2 (by decide) (hts _ (List.mem_cons_of_mem _ qX5_f21)) (fun _ h9 => h9) rfl dX5_takeInStream_32 ?_
      refine va_getN (D := D) (ci := 2) (v := .int (g 1 7)) (C := RX2) (T := TX2) (N := 13) hx hb hts (se_iw iwX2) hown hK hP 1 rfl rfl 7 (by decide) (va_Nw.use rfl (hZ _ nX5_f93 rfl)) (fun _ h9 => h9) rfl dX5_takeInStream_35 ?_
      refine se_join (v := ((if (g 1 7) = 0 then 4 else 5) : Int32)) (pcJ := 46) (restJ := [.ref (h 0)]) (ls := ls) (fun T => ?_) ?_
      · refine lv_if_eq (tgt := 45) hx hb dX5_takeInStream_38 (by decide) (fun c9 => ?_) (fun c9 => ?_)
        · refine lv_iconst (v := 4) hx hb dX5_takeInStream_45 (by decide) ?_
          exact T _ (by rw [if_pos c9])
        · refine lv_iconst (v := 5) hx hb dX5_takeInStream_41 (by decide) ?_
          refine lv_goto (tgt := 46) hx hb dX5_takeInStream_42 (by decide) ?_
          exact T _ (by rw [if_neg c9])
      refine va_put (D := D) (ci := 5) (v := .int ((if (g 1 7) = 0 then 4 else 5) : Int32)) (ty := .int) (C := RX5) (T := TX5) (N := 12) hx hb hts (se_iw iwX5) tyX5 tyX5_ok nmX5 hown hK hP hD hS 0 rfl rfl 9 (by decide) (hts _ (List.mem_cons_of_mem _ qX5_f60)) (fun _ h9 => h9) rfl (by decide +kernel) rfl rfl (Nat.le_of_ble_eq_true rfl) dX5_takeInStream_46 (fun H locs hP hD hS => ?_)
      replace hP : va_P D se_cl (se_WS k h (se_u g 0 9 ((if (g 1 7) = 0 then 4 else 5) : Int32))) H := hP
      replace hD : va_D A (se_WS k h (se_u g 0 9 ((if (g 1 7) = 0 then 4 else 5) : Int32))) := hD
      refine lv_aload_n hx hb dX5_takeInStream_49 rfl (lv_at hl 0 rfl) ?_
      refine va_get (D := D) (ci := 5) (v := .ref (h 6)) (C := RX5) (T := TX5) (N := 12) hx hb hts (se_iw iwX5) hown hK hP 0 rfl rfl 5 (by decide) (hts _ (List.mem_cons_of_mem _ qX5_f42)) (fun _ h9 => h9) rfl dX5_takeInStream_50 ?_
      refine lv_iconst (v := 0) hx hb dX5_takeInStream_53 (by decide) ?_
      refine va_putN (D := D) (ci := 0) (v := .int 0) (ty := .boolean) (C := RX0) (T := TX0) (N := 9) hx hb hts (se_iw iwX0) tyX0 tyX0_ok nmX0 hown hK hP hD hS 6 rfl rfl 4 (by decide) (va_Nw.use rfl (hZ _ nX5_f173 rfl)) (fun _ h9 => h9) rfl (by decide +kernel) rfl rfl (Nat.le_of_ble_eq_true rfl) dX5_takeInStream_54 (fun H locs hP hD hS => ?_)
      replace hP : va_P D se_cl (se_WS k h (se_u (se_u g 0 9 ((if (g 1 7) = 0 then 4 else 5) : Int32)) 6 4 0)) H := hP
      replace hD : va_D A (se_WS k h (se_u (se_u g 0 9 ((if (g 1 7) = 0 then 4 else 5) : Int32)) 6 4 0)) := hD
      refine lv_goto (tgt := 89) hx hb dX5_takeInStream_57 (by decide) ?_
      exact J89 (se_u (se_u g 0 9 ((if (g 1 7) = 0 then 4 else 5) : Int32)) 6 4 0) _ _ ls (by first | exact hI | (simp only [kp_takeThanked, kp_takeWindow, kp_leave]; exact hI)) (by rw [F_S_takeInStream, if_pos c1, if_pos c7]) hP hD hS (lv_sub hl [0] rfl)
    · refine lv_aload_n hx hb dX5_takeInStream_25 rfl (lv_at hl 0 rfl) ?_
      refine se_cvE (va_runV (C := RX5) (As := []) (rest := []) ⟨hx, hb, hml, hown, hts⟩ (c_S_answerWithReset l D k h _ g) (se_kV 0 hts q_code_X5_answerWithReset qX5_m372 q_ini_StreamEnd q_instanceMethod_X5_answerWithReset q_sel_X5_answerWithReset (by decide +kernel) ⟨Nat.le_of_ble_eq_true rfl, Nat.le_of_ble_eq_true rfl⟩ rfl rfl) ⟨se_blind se_ZN_ok, va_recv hK hP (ci := 5) (q0 := 0) rfl rfl, se_pre se_ZN_ok hP hK hD hZ⟩ rfl rfl hl.1 rfl (lv_room (Nat.le_of_ble_eq_true rfl)) dX5_takeInStream_26 ⟨Nat.zero_le _, Nat.zero_le _⟩) hD hS hA (fun g6 H locs eg6 hP hD hS => ?_)
      exact se_rv hx hb hr hlocks hK hP hD hS dX5_takeInStream_29 (by subst eg6; rw [F_S_takeInStream, if_pos c1, if_neg c7])
set_option maxRecDepth 100000 in
set_option maxHeartbeats 4000000 in
theorem c_S_takeReset (l : Launch) (D : va_G) (k : Nat → ClassId) (h : Nat → Nat) (sz : Nat) (g : se_G)  : Met l yX5_takeReset (se_w_X5_takeReset) ({ frames := 3, cells := 0, slots := 0, locals := 67 }) (va_Pc [.ref (h 0)] (se_Pre D se_cl [(k 2, .byte), (k 4, .int), (k 8, .byte), (k 10, .byte)] (se_WS k h g) se_ZN sz)) (se_Qv D se_cl [(k 2, .byte), (k 4, .int), (k 8, .byte), (k 10, .byte)] (se_WS k h) (F_S_takeReset g) (va_A (se_WS k h g) sz)) 0 0 (va_A (se_WS k h g) sz) := by
  refine se_met (Qc := se_Qv D se_cl [(k 2, .byte), (k 4, .int), (k 8, .byte), (k 10, .byte)] (se_WS k h) (F_S_takeReset g)) (cc := cX5_takeReset) (maxL := 1) (ret := none) (by decide) rfl (Nat.le_of_ble_eq_true rfl) ?_
  intro p e s m below meth c ls A hx hb hr hts hown hlocks hml hA hP hK hD hS hZ hl
  replace hl : lv_has ls 1 [(0, .ref (h 0))] := hl
  have J58 : ∀ (gj58 : se_G) (H : Heap) (locs : List Loc) (ls : Array Slot), F_S_takeReset_j58 gj58 = F_S_takeReset g → va_P D se_cl (se_WS k h gj58) H → va_D A (se_WS k h gj58) → va_S A s.heap H locs → lv_has ls 1 [(0, .ref (h 0))] → W p l e ({ frames := 3, cells := 0, slots := 0, locals := 67 }) s m [.ref (h 0)].toArray below meth c H locs 0 0 (MQ below (se_Qv D se_cl [(k 2, .byte), (k 4, .int), (k 8, .byte), (k 10, .byte)] (se_WS k h) (F_S_takeReset g) A) [.ref (h 0)].toArray s 0 0 A) (F0 m 58 ls []) := by
    intro gj58 H locs ls hF hP hD hS hl
    refine lv_aload_n hx hb dX5_takeReset_58 rfl (lv_at hl 0 rfl) ?_
    refine va_get (D := D) (ci := 5) (v := .int (gj58 0 9)) (C := RX5) (T := TX5) (N := 12) hx hb hts (se_iw iwX5) hown hK hP 0 rfl rfl 9 (by decide) (hts _ (List.mem_cons_of_mem _ qX5_f60)) (fun _ h9 => h9) rfl dX5_takeReset_59 ?_
    refine lv_bipush (v := 8) hx hb dX5_takeReset_62 (by decide) ?_
    refine lv_icmp_eq (tgt := 85) hx hb dX5_takeReset_64 (by decide) (fun c3 => ?_) (fun c3 => ?_)
    · refine lv_aload_n hx hb dX5_takeReset_85 rfl (lv_at hl 0 rfl) ?_
      refine lv_iconst (v := 0) hx hb dX5_takeReset_86 (by decide) ?_
      refine se_cvE (va_runV (C := RX5) (As := [.int 0]) (rest := []) ⟨hx, hb, hml, hown, hts⟩ (c_S_halt l D k h _ gj58 0) (se_kV 1 hts q_code_X5_halt qX5_m132 q_ini_StreamEnd q_instanceMethod_X5_halt q_sel_X5_halt (by decide +kernel) ⟨Nat.le_of_ble_eq_true rfl, Nat.le_of_ble_eq_true rfl⟩ rfl rfl) ⟨se_blind se_ZN_ok, va_recv hK hP (ci := 5) (q0 := 0) rfl rfl, se_pre se_ZN_ok hP hK hD hZ⟩ rfl rfl hl.1 rfl (lv_room (Nat.le_of_ble_eq_true rfl)) dX5_takeReset_87 ⟨Nat.zero_le _, Nat.zero_le _⟩) hD hS hA (fun g1 H locs eg1 hP hD hS => ?_)
      refine lv_goto (tgt := 99) hx hb dX5_takeReset_90 (by decide) ?_
      exact se_rv hx hb hr hlocks hK hP hD hS dX5_takeReset_99 (by subst eg1; rw [← hF, F_S_takeReset_j58, if_pos c3])
    · refine lv_aload_n hx hb dX5_takeReset_67 rfl (lv_at hl 0 rfl) ?_
      refine va_get (D := D) (ci := 5) (v := .int (gj58 0 9)) (C := RX5) (T := TX5) (N := 12) hx hb hts (se_iw iwX5) hown hK hP 0 rfl rfl 9 (by decide) (hts _ (List.mem_cons_of_mem _ qX5_f60)) (fun _ h9 => h9) rfl dX5_takeReset_68 ?_
      refine lv_bipush (v := 9) hx hb dX5_takeReset_71 (by decide) ?_
      refine lv_icmp_eq (tgt := 85) hx hb dX5_takeReset_73 (by decide) (fun c4 => ?_) (fun c4 => ?_)
      · refine lv_aload_n hx hb dX5_takeReset_85 rfl (lv_at hl 0 rfl) ?_
        refine lv_iconst (v := 0) hx hb dX5_takeReset_86 (by decide) ?_
        refine se_cvE (va_runV (C := RX5) (As := [.int 0]) (rest := []) ⟨hx, hb, hml, hown, hts⟩ (c_S_halt l D k h _ gj58 0) (se_kV 1 hts q_code_X5_halt qX5_m132 q_ini_StreamEnd q_instanceMethod_X5_halt q_sel_X5_halt (by decide +kernel) ⟨Nat.le_of_ble_eq_true rfl, Nat.le_of_ble_eq_true rfl⟩ rfl rfl) ⟨se_blind se_ZN_ok, va_recv hK hP (ci := 5) (q0 := 0) rfl rfl, se_pre se_ZN_ok hP hK hD hZ⟩ rfl rfl hl.1 rfl (lv_room (Nat.le_of_ble_eq_true rfl)) dX5_takeReset_87 ⟨Nat.zero_le _, Nat.zero_le _⟩) hD hS hA (fun g2 H locs eg2 hP hD hS => ?_)
        refine lv_goto (tgt := 99) hx hb dX5_takeReset_90 (by decide) ?_
        exact se_rv hx hb hr hlocks hK hP hD hS dX5_takeReset_99 (by subst eg2; rw [← hF, F_S_takeReset_j58, if_neg c3, if_pos c4])
      · refine lv_aload_n hx hb dX5_takeReset_76 rfl (lv_at hl 0 rfl) ?_
        refine va_get (D := D) (ci := 5) (v := .int (gj58 0 9)) (C := RX5) (T := TX5) (N := 12) hx hb hts (se_iw iwX5) hown hK hP 0 rfl rfl 9 (by decide) (hts _ (List.mem_cons_of_mem _ qX5_f60)) (fun _ h9 => h9) rfl dX5_takeReset_77 ?_
        refine lv_bipush (v := 10) hx hb dX5_takeReset_80 (by decide) ?_
        refine lv_icmp_ne (tgt := 93) hx hb dX5_takeReset_82 (by decide) (fun c5 => ?_) (fun c5 => ?_)
        · refine lv_aload_n hx hb dX5_takeReset_93 rfl (lv_at hl 0 rfl) ?_
          refine lv_bipush (v := 11) hx hb dX5_takeReset_94 (by decide) ?_
          refine se_cvE (va_runV (C := RX5) (As := [.int 11]) (rest := []) ⟨hx, hb, hml, hown, hts⟩ (c_S_halt l D k h _ gj58 11) (se_kV 1 hts q_code_X5_halt qX5_m132 q_ini_StreamEnd q_instanceMethod_X5_halt q_sel_X5_halt (by decide +kernel) ⟨Nat.le_of_ble_eq_true rfl, Nat.le_of_ble_eq_true rfl⟩ rfl rfl) ⟨se_blind se_ZN_ok, va_recv hK hP (ci := 5) (q0 := 0) rfl rfl, se_pre se_ZN_ok hP hK hD hZ⟩ rfl rfl hl.1 rfl (lv_room (Nat.le_of_ble_eq_true rfl)) dX5_takeReset_96 ⟨Nat.zero_le _, Nat.zero_le _⟩) hD hS hA (fun g3 H locs eg3 hP hD hS => ?_)
          exact se_rv hx hb hr hlocks hK hP hD hS dX5_takeReset_99 (by subst eg3; rw [← hF, F_S_takeReset_j58, if_neg c3, if_neg c4, if_neg c5])
        · refine lv_aload_n hx hb dX5_takeReset_85 rfl (lv_at hl 0 rfl) ?_
          refine lv_iconst (v := 0) hx hb dX5_takeReset_86 (by decide) ?_
          refine se_cvE (va_runV (C := RX5) (As := [.int 0]) (rest := []) ⟨hx, hb, hml, hown, hts⟩ (c_S_halt l D k h _ gj58 0) (se_kV 1 hts q_code_X5_halt qX5_m132 q_ini_StreamEnd q_instanceMethod_X5_halt q_sel_X5_halt (by decide +kernel) ⟨Nat.le_of_ble_eq_true rfl, Nat.le_of_ble_eq_true rfl⟩ rfl rfl) ⟨se_blind se_ZN_ok, va_recv hK hP (ci := 5) (q0 := 0) rfl rfl, se_pre se_ZN_ok hP hK hD hZ⟩ rfl rfl hl.1 rfl (lv_room (Nat.le_of_ble_eq_true rfl)) dX5_takeReset_87 ⟨Nat.zero_le _, Nat.zero_le _⟩) hD hS hA (fun g4 H locs eg4 hP hD hS => ?_)
          refine lv_goto (tgt := 99) hx hb dX5_takeReset_90 (by decide) ?_
          exact se_rv hx hb hr hlocks hK hP hD hS dX5_takeReset_99 (by subst eg4; rw [← hF, F_S_takeReset_j58, if_neg c3, if_neg c4, if_pos c5])
  have hF : F_S_takeReset g = F_S_takeReset g := rfl
  refine lv_aload_n hx hb dX5_takeReset_0 rfl (lv_at hl 0 rfl) ?_
  refine va_get (D := D) (ci := 5) (v := .ref (h 7)) (C := RX5) (T := TX5) (N := 12) hx hb hts (se_iw iwX5) hown hK hP 0 rfl rfl 6 (by decide) (hts _ (List.mem_cons_of_mem _ qX5_f49)) (fun _ h9 => h9) rfl dX5_takeReset_1 ?_
  refine va_getN (D := D) (ci := 3) (v := .int (g 7 3)) (C := RX3) (T := TX3) (N := 7) hx hb hts (se_iw iwX3) hown hK hP 7 rfl rfl 3 (by decide) (va_Nw.use rfl (hZ _ nX5_f220 rfl)) (fun _ h9 => h9) rfl dX5_takeReset_4 ?_
  refine lv_aload_n hx hb dX5_takeReset_7 rfl (lv_at hl 0 rfl) ?_
  refine va_get (D := D) (ci := 5) (v := .ref (h 3)) (C := RX5) (T := TX5) (N := 12) hx hb hts (se_iw iwX5) hown hK hP 0 rfl rfl 3 (by decide) (hts _ (List.mem_cons_of_mem _ qX5_f28)) (fun _ h9 => h9) rfl dX5_takeReset_8 ?_
  refine va_getN (D := D) (ci := 1) (v := .int (g 3 2)) (C := RX1) (T := TX1) (N := 8) hx hb hts (se_iw iwX1) hown hK hP 3 rfl rfl 2 (by decide) (va_Nw.use rfl (hZ _ nX5_f140 rfl)) (fun _ h9 => h9) rfl dX5_takeReset_11 ?_
  refine lv_icmp_eq (tgt := 28) hx hb dX5_takeReset_14 (by decide) (fun c1 => ?_) (fun c1 => ?_)
  · refine lv_aload_n hx hb dX5_takeReset_28 rfl (lv_at hl 0 rfl) ?_
    refine va_get (D := D) (ci := 5) (v := .int (g 0 9)) (C := RX5) (T := TX5) (N := 12) hx hb hts (se_iw iwX5) hown hK hP 0 rfl rfl 9 (by decide) (hts _ (List.mem_cons_of_mem _ qX5_f60)) (fun _ h9 => h9) rfl dX5_takeReset_29 ?_
    refine lv_iconst (v := 3) hx hb dX5_takeReset_32 (by decide) ?_
    refine lv_icmp_ne (tgt := 58) hx hb dX5_takeReset_33 (by decide) (fun c2 => ?_) (fun c2 => ?_)
    · exact J58 g _ _ ls (by rw [F_S_takeReset, if_pos c1, if_neg c2]) hP hD hS (lv_sub hl [0] rfl)
    · refine lv_aload_n hx hb dX5_takeReset_36 rfl (lv_at hl 0 rfl) ?_
      refine va_get (D := D) (ci := 5) (v := .int (g 0 10)) (C := RX5) (T := TX5) (N := 12) hx hb hts (se_iw iwX5) hown hK hP 0 rfl rfl 10 (by decide) (hts _ (List.mem_cons_of_mem _ qX5_f63)) (fun _ h9 => h9) rfl dX5_takeReset_37 ?_
      refine lv_if_eq (tgt := 58) hx hb dX5_takeReset_40 (by decide) (fun c6 => ?_) (fun c6 => ?_)
      · exact J58 g _ _ ls (by rw [F_S_takeReset, if_pos c1, if_pos c2, if_pos c6]) hP hD hS (lv_sub hl [0] rfl)
      · refine lv_aload_n hx hb dX5_takeReset_43 rfl (lv_at hl 0 rfl) ?_
        refine lv_aload_n hx hb dX5_takeReset_44 rfl (lv_at hl 0 rfl) ?_
        refine va_get (D := D) (ci := 5) (v := .ref (h 1)) (C := RX5) (T := TX5) (N := 12) hx hb hts (se_iw iwX5) hown hK hP 0 rfl rfl 2 (by decide) (hts _ (List.mem_cons_of_mem _ qX5_f21)) (fun _ h9 => h9) rfl dX5_takeReset_45 ?_
        refine va_getN (D := D) (ci := 2) (v := .int (g 1 4)) (C := RX2) (T := TX2) (N := 13) hx hb hts (se_iw iwX2) hown hK hP 1 rfl rfl 4 (by decide) (va_Nw.use rfl (hZ _ nX5_f296 rfl)) (fun _ h9 => h9) rfl dX5_takeReset_48 ?_
        refine lv_iconst (v := 1) hx hb dX5_takeReset_51 (by decide) ?_
        refine se_cvE (va_runV (C := RX5) (As := [.int (g 1 4), .int 1]) (rest := []) ⟨hx, hb, hml, hown, hts⟩ (c_S_startStream l D k h _ g (g 1 4) 1 (Or.inr rfl)) (se_kV 2 hts q_code_X5_startStream qX5_m80 q_ini_StreamEnd q_instanceMethod_X5_startStream q_sel_X5_startStream (by decide +kernel) ⟨Nat.le_of_ble_eq_true rfl, Nat.le_of_ble_eq_true rfl⟩ rfl rfl) ⟨se_blind se_ZN_ok, va_recv hK hP (ci := 5) (q0 := 0) rfl rfl, se_pre se_ZN_ok hP hK hD hZ⟩ rfl rfl hl.1 rfl (lv_room (Nat.le_of_ble_eq_true rfl)) dX5_takeReset_52 ⟨Nat.zero_le _, Nat.zero_le _⟩) hD hS hA (fun g5 H locs eg5 hP hD hS => ?_)
        refine lv_goto (tgt := 99) hx hb dX5_takeReset_55 (by decide) ?_
        exact se_rv hx hb hr hlocks hK hP hD hS dX5_takeReset_99 (by subst eg5; rw [F_S_takeReset, if_pos c1, if_pos c2, if_neg c6])
  · refine lv_aload_n hx hb dX5_takeReset_17 rfl (lv_at hl 0 rfl) ?_
    refine va_get (D := D) (ci := 5) (v := .ref (h 6)) (C := RX5) (T := TX5) (N := 12) hx hb hts (se_iw iwX5) hown hK hP 0 rfl rfl 5 (by decide) (hts _ (List.mem_cons_of_mem _ qX5_f42)) (fun _ h9 => h9) rfl dX5_takeReset_18 ?_
    refine lv_iconst (v := 1) hx hb dX5_takeReset_21 (by decide) ?_
    refine va_putN (D := D) (ci := 0) (v := .int 1) (ty := .boolean) (C := RX0) (T := TX0) (N := 9) hx hb hts (se_iw iwX0) tyX0 tyX0_ok nmX0 hown hK hP hD hS 6 rfl rfl 8 (by decide) (va_Nw.use rfl (hZ _ nX5_f206 rfl)) (fun _ h9 => h9) rfl (by decide +kernel) rfl rfl (Nat.le_of_ble_eq_true rfl) dX5_takeReset_22 (fun H locs hP hD hS => ?_)
    replace hP : va_P D se_cl (se_WS k h (se_u g 6 8 1)) H := hP
    replace hD : va_D A (se_WS k h (se_u g 6 8 1)) := hD
    refine lv_goto (tgt := 99) hx hb dX5_takeReset_25 (by decide) ?_
    exact se_rv hx hb hr hlocks hK hP hD hS dX5_takeReset_99 (by rw [F_S_takeReset, if_neg c1])
set_option maxRecDepth 100000 in
set_option maxHeartbeats 4000000 in
theorem c_S_takeMisfit (l : Launch) (D : va_G) (k : Nat → ClassId) (h : Nat → Nat) (sz : Nat) (g : se_G)  : Met l yX5_takeMisfit (se_w_X5_takeMisfit) ({ frames := 1, cells := 0, slots := 0, locals := 21 }) (va_Pc [.ref (h 0)] (se_Pre D se_cl [(k 2, .byte), (k 4, .int), (k 8, .byte), (k 10, .byte)] (se_WS k h g) se_ZN sz)) (se_Qv D se_cl [(k 2, .byte), (k 4, .int), (k 8, .byte), (k 10, .byte)] (se_WS k h) (F_S_takeMisfit g) (va_A (se_WS k h g) sz)) 0 0 (va_A (se_WS k h g) sz) := by
  refine se_met (Qc := se_Qv D se_cl [(k 2, .byte), (k 4, .int), (k 8, .byte), (k 10, .byte)] (se_WS k h) (F_S_takeMisfit g)) (cc := cX5_takeMisfit) (maxL := 1) (ret := none) (by decide) rfl (Nat.le_of_ble_eq_true rfl) ?_
  intro p e s m below meth c ls A hx hb hr hts hown hlocks hml hA hP hK hD hS hZ hl
  replace hl : lv_has ls 1 [(0, .ref (h 0))] := hl
  have J19 : ∀ (gj19 : se_G) (H : Heap) (locs : List Loc) (ls : Array Slot), F_S_takeMisfit_j19 gj19 = F_S_takeMisfit g → va_P D se_cl (se_WS k h gj19) H → va_D A (se_WS k h gj19) → va_S A s.heap H locs → lv_has ls 1 [(0, .ref (h 0))] → W p l e ({ frames := 1, cells := 0, slots := 0, locals := 21 }) s m [.ref (h 0)].toArray below meth c H locs 0 0 (MQ below (se_Qv D se_cl [(k 2, .byte), (k 4, .int), (k 8, .byte), (k 10, .byte)] (se_WS k h) (F_S_takeMisfit g) A) [.ref (h 0)].toArray s 0 0 A) (F0 m 19 ls []) := by
    intro gj19 H locs ls hF hP hD hS hl
    refine lv_aload_n hx hb dX5_takeMisfit_19 rfl (lv_at hl 0 rfl) ?_
    refine va_get (D := D) (ci := 5) (v := .int (gj19 0 9)) (C := RX5) (T := TX5) (N := 12) hx hb hts (se_iw iwX5) hown hK hP 0 rfl rfl 9 (by decide) (hts _ (List.mem_cons_of_mem _ qX5_f60)) (fun _ h9 => h9) rfl dX5_takeMisfit_20 ?_
    refine lv_bipush (v := 10) hx hb dX5_takeMisfit_23 (by decide) ?_
    refine lv_icmp_ne (tgt := 43) hx hb dX5_takeMisfit_25 (by decide) (fun c2 => ?_) (fun c2 => ?_)
    · exact se_rv hx hb hr hlocks hK hP hD hS dX5_takeMisfit_43 (by rw [← hF, F_S_takeMisfit_j19, if_neg c2])
    · refine lv_aload_n hx hb dX5_takeMisfit_28 rfl (lv_at hl 0 rfl) ?_
      refine va_get (D := D) (ci := 5) (v := .ref (h 7)) (C := RX5) (T := TX5) (N := 12) hx hb hts (se_iw iwX5) hown hK hP 0 rfl rfl 6 (by decide) (hts _ (List.mem_cons_of_mem _ qX5_f49)) (fun _ h9 => h9) rfl dX5_takeMisfit_29 ?_
      refine lv_iconst (v := 2) hx hb dX5_takeMisfit_32 (by decide) ?_
      refine se_cp (va_runVN (C := RX3) (As := [.int 2]) (rest := []) ⟨hx, hb, hml, hown, hts⟩ (c_S_Segment_has_7 l D k h _ gj19 2) (se_kVN 1 hts q_code_X3_has (hZ _ nX5_m338 rfl) q_ini_StreamEnd_Segment q_instanceMethod_X3_has q_sel_X3_has (by decide +kernel) ⟨Nat.le_of_ble_eq_true rfl, Nat.le_of_ble_eq_true rfl⟩ rfl rfl) ⟨se_blind se_ZN_ok, va_recv hK hP (ci := 3) (q0 := 7) rfl rfl, se_pre se_ZN_ok hP hK hD hZ⟩ rfl rfl hl.1 rfl (lv_room (Nat.le_of_ble_eq_true rfl)) dX5_takeMisfit_33 ⟨Nat.zero_le _, Nat.zero_le _⟩) hD hS hA (fun H locs hP hD hS => ?_)
      refine lv_if_eq (tgt := 43) hx hb dX5_takeMisfit_36 (by decide) (fun c3 => ?_) (fun c3 => ?_)
      · exact se_rv hx hb hr hlocks hK hP hD hS dX5_takeMisfit_43 (by rw [← hF, F_S_takeMisfit_j19, if_pos c2, if_pos c3])
      · refine lv_aload_n hx hb dX5_takeMisfit_39 rfl (lv_at hl 0 rfl) ?_
        refine se_cvE (va_runV (C := RX5) (As := []) (rest := []) ⟨hx, hb, hml, hown, hts⟩ (c_S_beginQuiet l D k h _ gj19) (se_kV 0 hts q_code_X5_beginQuiet qX5_m302 q_ini_StreamEnd q_instanceMethod_X5_beginQuiet q_sel_X5_beginQuiet (by decide +kernel) ⟨Nat.le_of_ble_eq_true rfl, Nat.le_of_ble_eq_true rfl⟩ rfl rfl) ⟨se_blind se_ZN_ok, va_recv hK hP (ci := 5) (q0 := 0) rfl rfl, se_pre se_ZN_ok hP hK hD hZ⟩ rfl rfl hl.1 rfl (lv_room (Nat.le_of_ble_eq_true rfl)) dX5_takeMisfit_40 ⟨Nat.zero_le _, Nat.zero_le _⟩) hD hS hA (fun g1 H locs eg1 hP hD hS => ?_)
        exact se_rv hx hb hr hlocks hK hP hD hS dX5_takeMisfit_43 (by subst eg1; rw [← hF, F_S_takeMisfit_j19, if_pos c2, if_neg c3])
  have hF : F_S_takeMisfit g = F_S_takeMisfit g := rfl
  refine lv_aload_n hx hb dX5_takeMisfit_0 rfl (lv_at hl 0 rfl) ?_
  refine va_get (D := D) (ci := 5) (v := .ref (h 7)) (C := RX5) (T := TX5) (N := 12) hx hb hts (se_iw iwX5) hown hK hP 0 rfl rfl 6 (by decide) (hts _ (List.mem_cons_of_mem _ qX5_f49)) (fun _ h9 => h9) rfl dX5_takeMisfit_1 ?_
  refine lv_iconst (v := 4) hx hb dX5_takeMisfit_4 (by decide) ?_
  refine se_cp (va_runVN (C := RX3) (As := [.int 4]) (rest := []) ⟨hx, hb, hml, hown, hts⟩ (c_S_Segment_has_7 l D k h _ g 4) (se_kVN 1 hts q_code_X3_has (hZ _ nX5_m338 rfl) q_ini_StreamEnd_Segment q_instanceMethod_X3_has q_sel_X3_has (by decide +kernel) ⟨Nat.le_of_ble_eq_true rfl, Nat.le_of_ble_eq_true rfl⟩ rfl rfl) ⟨se_blind se_ZN_ok, va_recv hK hP (ci := 3) (q0 := 7) rfl rfl, se_pre se_ZN_ok hP hK hD hZ⟩ rfl rfl hl.1 rfl (lv_room (Nat.le_of_ble_eq_true rfl)) dX5_takeMisfit_5 ⟨Nat.zero_le _, Nat.zero_le _⟩) hD hS hA (fun H locs hP hD hS => ?_)
  refine lv_if_ne (tgt := 19) hx hb dX5_takeMisfit_8 (by decide) (fun c1 => ?_) (fun c1 => ?_)
  · exact J19 g _ _ ls (by rw [F_S_takeMisfit, if_neg c1]) hP hD hS (lv_sub hl [0] rfl)
  · refine lv_aload_n hx hb dX5_takeMisfit_11 rfl (lv_at hl 0 rfl) ?_
    refine va_get (D := D) (ci := 5) (v := .ref (h 6)) (C := RX5) (T := TX5) (N := 12) hx hb hts (se_iw iwX5) hown hK hP 0 rfl rfl 5 (by decide) (hts _ (List.mem_cons_of_mem _ qX5_f42)) (fun _ h9 => h9) rfl dX5_takeMisfit_12 ?_
    refine lv_iconst (v := 1) hx hb dX5_takeMisfit_15 (by decide) ?_
    refine va_putN (D := D) (ci := 0) (v := .int 1) (ty := .boolean) (C := RX0) (T := TX0) (N := 9) hx hb hts (se_iw iwX0) tyX0 tyX0_ok nmX0 hown hK hP hD hS 6 rfl rfl 8 (by decide) (va_Nw.use rfl (hZ _ nX5_f206 rfl)) (fun _ h9 => h9) rfl (by decide +kernel) rfl rfl (Nat.le_of_ble_eq_true rfl) dX5_takeMisfit_16 (fun H locs hP hD hS => ?_)
    replace hP : va_P D se_cl (se_WS k h (se_u g 6 8 1)) H := hP
    replace hD : va_D A (se_WS k h (se_u g 6 8 1)) := hD
    exact J19 (se_u g 6 8 1) _ _ ls (by rw [F_S_takeMisfit, if_pos c1]) hP hD hS (lv_sub hl [0] rfl)
set_option maxRecDepth 100000 in
set_option maxHeartbeats 4000000 in
theorem c_S_Incoming_open (l : Launch) (D : va_G) (k : Nat → ClassId) (h : Nat → Nat) (sz : Nat) (g : se_G) (p1 : Int32) : Met l yX1_open (se_w_X1_open) ({ frames := 0, cells := 0, slots := 0, locals := 0 }) (va_Pc [.ref (h 3), .int p1] (se_Pre D se_cl [(k 2, .byte), (k 4, .int), (k 8, .byte), (k 10, .byte)] (se_WS k h g) se_ZN sz)) (se_Qv D se_cl [(k 2, .byte), (k 4, .int), (k 8, .byte), (k 10, .byte)] (se_WS k h) (F_S_Incoming_open g p1) (va_A (se_WS k h g) sz)) 0 0 (va_A (se_WS k h g) sz) := by
  refine se_met (Qc := se_Qv D se_cl [(k 2, .byte), (k 4, .int), (k 8, .byte), (k 10, .byte)] (se_WS k h) (F_S_Incoming_open g p1)) (cc := cX1_open) (maxL := 2) (ret := none) (by decide) rfl (Nat.le_of_ble_eq_true rfl) ?_
  intro p e s m below meth c ls A hx hb hr hts hown hlocks hml hA hP hK hD hS hZ hl
  replace hl : lv_has ls 2 [(0, .ref (h 3)), (1, .int p1)] := hl
  have hF : F_S_Incoming_open g p1 = F_S_Incoming_open g p1 := rfl
  refine lv_aload_n hx hb dX1_open_0 rfl (lv_at hl 0 rfl) ?_
  refine lv_iconst (v := 1) hx hb dX1_open_1 (by decide) ?_
  refine va_put (D := D) (ci := 1) (v := .int 1) (ty := .boolean) (C := RX1) (T := TX1) (N := 8) hx hb hts (se_iw iwX1) tyX1 tyX1_ok nmX1 hown hK hP hD hS 3 rfl rfl 1 (by decide) (hts _ (List.mem_cons_of_mem _ qX1_f21)) (fun _ h9 => h9) rfl (by decide +kernel) rfl rfl (Nat.le_of_ble_eq_true rfl) dX1_open_2 (fun H locs hP hD hS => ?_)
  replace hP : va_P D se_cl (se_WS k h (se_u g 3 1 1)) H := hP
  replace hD : va_D A (se_WS k h (se_u g 3 1 1)) := hD
  refine lv_aload_n hx hb dX1_open_5 rfl (lv_at hl 0 rfl) ?_
  refine lv_iload_n hx hb dX1_open_6 rfl (lv_at hl 1 rfl) ?_
  refine va_put (D := D) (ci := 1) (v := .int p1) (ty := .int) (C := RX1) (T := TX1) (N := 8) hx hb hts (se_iw iwX1) tyX1 tyX1_ok nmX1 hown hK hP hD hS 3 rfl rfl 2 (by decide) (hts _ (List.mem_cons_of_mem _ qX1_f25)) (fun _ h9 => h9) rfl (by decide +kernel) rfl rfl (Nat.le_of_ble_eq_true rfl) dX1_open_7 (fun H locs hP hD hS => ?_)
  replace hP : va_P D se_cl (se_WS k h (se_u (se_u g 3 1 1) 3 2 p1)) H := hP
  replace hD : va_D A (se_WS k h (se_u (se_u g 3 1 1) 3 2 p1)) := hD
  refine lv_aload_n hx hb dX1_open_10 rfl (lv_at hl 0 rfl) ?_
  refine lv_iload_n hx hb dX1_open_11 rfl (lv_at hl 1 rfl) ?_
  refine va_put (D := D) (ci := 1) (v := .int p1) (ty := .int) (C := RX1) (T := TX1) (N := 8) hx hb hts (se_iw iwX1) tyX1 tyX1_ok nmX1 hown hK hP hD hS 3 rfl rfl 4 (by decide) (hts _ (List.mem_cons_of_mem _ qX1_f32)) (fun _ h9 => h9) rfl (by decide +kernel) rfl rfl (Nat.le_of_ble_eq_true rfl) dX1_open_12 (fun H locs hP hD hS => ?_)
  replace hP : va_P D se_cl (se_WS k h (se_u (se_u (se_u g 3 1 1) 3 2 p1) 3 4 p1)) H := hP
  replace hD : va_D A (se_WS k h (se_u (se_u (se_u g 3 1 1) 3 2 p1) 3 4 p1)) := hD
  exact se_rv hx hb hr hlocks hK hP hD hS dX1_open_15 (by rw [F_S_Incoming_open])
set_option maxRecDepth 100000 in
set_option maxHeartbeats 4000000 in
theorem c_S_takeOpen (l : Launch) (D : va_G) (k : Nat → ClassId) (h : Nat → Nat) (sz : Nat) (g : se_G)  : Met l yX5_takeOpen (se_w_X5_takeOpen) ({ frames := 1, cells := 0, slots := 0, locals := 23 }) (va_Pc [.ref (h 0)] (se_Pre D se_cl [(k 2, .byte), (k 4, .int), (k 8, .byte), (k 10, .byte)] (se_WS k h g) se_ZN sz)) (se_Qv D se_cl [(k 2, .byte), (k 4, .int), (k 8, .byte), (k 10, .byte)] (se_WS k h) (F_S_takeOpen g) (va_A (se_WS k h g) sz)) 0 0 (va_A (se_WS k h g) sz) := by
  refine se_met (Qc := se_Qv D se_cl [(k 2, .byte), (k 4, .int), (k 8, .byte), (k 10, .byte)] (se_WS k h) (F_S_takeOpen g)) (cc := cX5_takeOpen) (maxL := 3) (ret := none) (by decide) rfl (Nat.le_of_ble_eq_true rfl) ?_
  intro p e s m below meth c ls A hx hb hr hts hown hlocks hml hA hP hK hD hS hZ hl
  replace hl : lv_has ls 3 [(0, .ref (h 0))] := hl
  have hF : F_S_takeOpen g = F_S_takeOpen g := rfl
  refine lv_aload_n hx hb dX5_takeOpen_0 rfl (lv_at hl 0 rfl) ?_
  refine va_get (D := D) (ci := 5) (v := .ref (h 3)) (C := RX5) (T := TX5) (N := 12) hx hb hts (se_iw iwX5) hown hK hP 0 rfl rfl 3 (by decide) (hts _ (List.mem_cons_of_mem _ qX5_f28)) (fun _ h9 => h9) rfl dX5_takeOpen_1 ?_
  refine lv_aload_n hx hb dX5_takeOpen_4 rfl (lv_at hl 0 rfl) ?_
  refine va_get (D := D) (ci := 5) (v := .ref (h 7)) (C := RX5) (T := TX5) (N := 12) hx hb hts (se_iw iwX5) hown hK hP 0 rfl rfl 6 (by decide) (hts _ (List.mem_cons_of_mem _ qX5_f49)) (fun _ h9 => h9) rfl dX5_takeOpen_5 ?_
  refine va_getN (D := D) (ci := 3) (v := .int (g 7 3)) (C := RX3) (T := TX3) (N := 7) hx hb hts (se_iw iwX3) hown hK hP 7 rfl rfl 3 (by decide) (va_Nw.use rfl (hZ _ nX5_f220 rfl)) (fun _ h9 => h9) rfl dX5_takeOpen_8 ?_
  refine lv_iconst (v := 1) hx hb dX5_takeOpen_11 (by decide) ?_
  refine lv_iadd hx hb dX5_takeOpen_12 ?_
  refine se_cvE (va_runVN (C := RX1) (As := [.int ((g 7 3) + 1)]) (rest := []) ⟨hx, hb, hml, hown, hts⟩ (c_S_Incoming_open l D k h _ g ((g 7 3) + 1)) (se_kVN 1 hts q_code_X1_open (hZ _ nX5_m403 rfl) q_ini_StreamEnd_Incoming q_instanceMethod_X1_open q_sel_X1_open (by decide +kernel) ⟨Nat.le_of_ble_eq_true rfl, Nat.le_of_ble_eq_true rfl⟩ rfl rfl) ⟨se_blind se_ZN_ok, va_recv hK hP (ci := 1) (q0 := 3) rfl rfl, se_pre se_ZN_ok hP hK hD hZ⟩ rfl rfl hl.1 rfl (lv_room (Nat.le_of_ble_eq_true rfl)) dX5_takeOpen_13 ⟨Nat.zero_le _, Nat.zero_le _⟩) hD hS hA (fun g1 H locs eg1 hP hD hS => ?_)
  replace hF : (F_S_takeOpen_k1 (F_S_Incoming_open g ((g 7 3) + 1))) = F_S_takeOpen g := by rw [F_S_takeOpen]
  rw [← eg1] at hF
  replace hF : F_S_takeOpen_k1 g1 = F_S_takeOpen g := hF
  refine lv_aload_n hx hb dX5_takeOpen_16 rfl (lv_at hl 0 rfl) ?_
  refine va_get (D := D) (ci := 5) (v := .ref (h 7)) (C := RX5) (T := TX5) (N := 12) hx hb hts (se_iw iwX5) hown hK hP 0 rfl rfl 6 (by decide) (hts _ (List.mem_cons_of_mem _ qX5_f49)) (fun _ h9 => h9) rfl dX5_takeOpen_17 ?_
  refine va_getN (D := D) (ci := 3) (v := .int (g1 7 6)) (C := RX3) (T := TX3) (N := 7) hx hb hts (se_iw iwX3) hown hK hP 7 rfl rfl 6 (by decide) (va_Nw.use rfl (hZ _ nX5_f229 rfl)) (fun _ h9 => h9) rfl dX5_takeOpen_20 ?_
  refine se_join (v := ((if (g1 7 6) = 0 then 536 else (g1 7 6)) : Int32)) (pcJ := 39) (restJ := []) (ls := ls) (fun T => ?_) ?_
  · refine lv_if_ne (tgt := 32) hx hb dX5_takeOpen_23 (by decide) (fun c2 => ?_) (fun c2 => ?_)
    · refine lv_aload_n hx hb dX5_takeOpen_32 rfl (lv_at hl 0 rfl) ?_
      refine va_get (D := D) (ci := 5) (v := .ref (h 7)) (C := RX5) (T := TX5) (N := 12) hx hb hts (se_iw iwX5) hown hK hP 0 rfl rfl 6 (by decide) (hts _ (List.mem_cons_of_mem _ qX5_f49)) (fun _ h9 => h9) rfl dX5_takeOpen_33 ?_
      refine va_getN (D := D) (ci := 3) (v := .int (g1 7 6)) (C := RX3) (T := TX3) (N := 7) hx hb hts (se_iw iwX3) hown hK hP 7 rfl rfl 6 (by decide) (va_Nw.use rfl (hZ _ nX5_f229 rfl)) (fun _ h9 => h9) rfl dX5_takeOpen_36 ?_
      exact T _ (by rw [if_neg c2])
    · refine lv_sipush (v := 536) hx hb dX5_takeOpen_26 (by decide) ?_
      refine lv_goto (tgt := 39) hx hb dX5_takeOpen_29 (by decide) ?_
      exact T _ (by rw [if_pos c2])
  refine lv_istore_n (lv' := [(1, .int ((if (g1 7 6) = 0 then 536 else (g1 7 6)) : Int32)), (0, .ref (h 0))]) hx hb dX5_takeOpen_39 rfl hl (by decide) rfl (fun ls hl => ?_)
  refine lv_aload_n hx hb dX5_takeOpen_40 rfl (lv_at hl 1 rfl) ?_
  refine va_get (D := D) (ci := 5) (v := .ref (h 1)) (C := RX5) (T := TX5) (N := 12) hx hb hts (se_iw iwX5) hown hK hP 0 rfl rfl 2 (by decide) (hts _ (List.mem_cons_of_mem _ qX5_f21)) (fun _ h9 => h9) rfl dX5_takeOpen_41 ?_
  refine lv_aload_n hx hb dX5_takeOpen_44 rfl (lv_at hl 1 rfl) ?_
  refine va_get (D := D) (ci := 5) (v := .int (g1 0 0)) (C := RX5) (T := TX5) (N := 12) hx hb hts (se_iw iwX5) hown hK hP 0 rfl rfl 0 (by decide) (hts _ (List.mem_cons_of_mem _ qX5_f9)) (fun _ h9 => h9) rfl dX5_takeOpen_45 ?_
  refine lv_iload_n hx hb dX5_takeOpen_48 rfl (lv_at hl 0 rfl) ?_
  refine va_mmin hx hb (hml.trans hl.1.symm) hown (hts _ (List.mem_cons_of_mem _ qX5_m102)) (hts _ (List.mem_cons_of_mem _ q_static_Math_min)) (hts _ (List.mem_cons_of_mem _ q_ini_java_lang_Math)) (hts _ (List.mem_cons_of_mem _ q_code_Math_min)) (Nat.le_of_ble_eq_true rfl) (Nat.le_of_ble_eq_true rfl) (Nat.zero_le _) (Nat.zero_le _) dX5_takeOpen_49 ?_
  refine va_putN (D := D) (ci := 2) (v := .int (if ((if (g1 7 6) = 0 then 536 else (g1 7 6)) : Int32) < (g1 0 0) then ((if (g1 7 6) = 0 then 536 else (g1 7 6)) : Int32) else (g1 0 0))) (ty := .int) (C := RX2) (T := TX2) (N := 13) hx hb hts (se_iw iwX2) tyX2 tyX2_ok nmX2 hown hK hP hD hS 1 rfl rfl 9 (by decide) (va_Nw.use rfl (hZ _ nX5_f273 rfl)) (fun _ h9 => h9) rfl (by decide +kernel) rfl rfl (Nat.le_of_ble_eq_true rfl) dX5_takeOpen_52 (fun H locs hP hD hS => ?_)
  replace hP : va_P D se_cl (se_WS k h (se_u g1 1 9 (if ((if (g1 7 6) = 0 then 536 else (g1 7 6)) : Int32) < (g1 0 0) then ((if (g1 7 6) = 0 then 536 else (g1 7 6)) : Int32) else (g1 0 0)))) H := hP
  replace hD : va_D A (se_WS k h (se_u g1 1 9 (if ((if (g1 7 6) = 0 then 536 else (g1 7 6)) : Int32) < (g1 0 0) then ((if (g1 7 6) = 0 then 536 else (g1 7 6)) : Int32) else (g1 0 0)))) := hD
  refine lv_aload_n hx hb dX5_takeOpen_55 rfl (lv_at hl 1 rfl) ?_
  refine va_get (D := D) (ci := 5) (v := .ref (h 7)) (C := RX5) (T := TX5) (N := 12) hx hb hts (se_iw iwX5) hown hK hP 0 rfl rfl 6 (by decide) (hts _ (List.mem_cons_of_mem _ qX5_f49)) (fun _ h9 => h9) rfl dX5_takeOpen_56 ?_
  refine lv_bipush (v := 8) hx hb dX5_takeOpen_59 (by decide) ?_
  refine se_cp (va_runVN (C := RX3) (As := [.int 8]) (rest := []) ⟨hx, hb, hml, hown, hts⟩ (c_S_Segment_has_7 l D k h _ (se_u g1 1 9 (if ((if (g1 7 6) = 0 then 536 else (g1 7 6)) : Int32) < (g1 0 0) then ((if (g1 7 6) = 0 then 536 else (g1 7 6)) : Int32) else (g1 0 0))) 8) (se_kVN 1 hts q_code_X3_has (hZ _ nX5_m338 rfl) q_ini_StreamEnd_Segment q_instanceMethod_X3_has q_sel_X3_has (by decide +kernel) ⟨Nat.le_of_ble_eq_true rfl, Nat.le_of_ble_eq_true rfl⟩ rfl rfl) ⟨se_blind se_ZN_ok, va_recv hK hP (ci := 3) (q0 := 7) rfl rfl, se_pre se_ZN_ok hP hK hD hZ⟩ rfl rfl hl.1 rfl (lv_room (Nat.le_of_ble_eq_true rfl)) dX5_takeOpen_61 ⟨Nat.zero_le _, Nat.zero_le _⟩) hD hS hA (fun H locs hP hD hS => ?_)
  refine se_join (v := ((if (F_S_Segment_has_7 (se_u g1 1 9 (if ((if (g1 7 6) = 0 then 536 else (g1 7 6)) : Int32) < (g1 0 0) then ((if (g1 7 6) = 0 then 536 else (g1 7 6)) : Int32) else (g1 0 0))) 8) = 0 then (g1 1 4) else (g1 7 4)) : Int32)) (pcJ := 84) (restJ := []) (ls := ls) (fun T => ?_) ?_
  · refine lv_if_eq (tgt := 77) hx hb dX5_takeOpen_64 (by decide) (fun c4 => ?_) (fun c4 => ?_)
    · refine lv_aload_n hx hb dX5_takeOpen_77 rfl (lv_at hl 1 rfl) ?_
      refine va_get (D := D) (ci := 5) (v := .ref (h 1)) (C := RX5) (T := TX5) (N := 12) hx hb hts (se_iw iwX5) hown hK hP 0 rfl rfl 2 (by decide) (hts _ (List.mem_cons_of_mem _ qX5_f21)) (fun _ h9 => h9) rfl dX5_takeOpen_78 ?_
      refine va_getN (D := D) (ci := 2) (v := .int (g1 1 4)) (C := RX2) (T := TX2) (N := 13) hx hb hts (se_iw iwX2) hown hK hP 1 rfl rfl 4 (by decide) (va_Nw.use rfl (hZ _ nX5_f296 rfl)) (fun _ h9 => h9) rfl dX5_takeOpen_81 ?_
      exact T _ (by rw [if_pos c4])
    · refine lv_aload_n hx hb dX5_takeOpen_67 rfl (lv_at hl 1 rfl) ?_
      refine va_get (D := D) (ci := 5) (v := .ref (h 7)) (C := RX5) (T := TX5) (N := 12) hx hb hts (se_iw iwX5) hown hK hP 0 rfl rfl 6 (by decide) (hts _ (List.mem_cons_of_mem _ qX5_f49)) (fun _ h9 => h9) rfl dX5_takeOpen_68 ?_
      refine va_getN (D := D) (ci := 3) (v := .int (g1 7 4)) (C := RX3) (T := TX3) (N := 7) hx hb hts (se_iw iwX3) hown hK hP 7 rfl rfl 4 (by decide) (va_Nw.use rfl (hZ _ nX5_f223 rfl)) (fun _ h9 => h9) rfl dX5_takeOpen_71 ?_
      refine lv_goto (tgt := 84) hx hb dX5_takeOpen_74 (by decide) ?_
      exact T _ (by rw [if_neg c4])
  refine lv_istore_n (lv' := [(2, .int ((if (F_S_Segment_has_7 (se_u g1 1 9 (if ((if (g1 7 6) = 0 then 536 else (g1 7 6)) : Int32) < (g1 0 0) then ((if (g1 7 6) = 0 then 536 else (g1 7 6)) : Int32) else (g1 0 0))) 8) = 0 then (g1 1 4) else (g1 7 4)) : Int32)), (1, .int ((if (g1 7 6) = 0 then 536 else (g1 7 6)) : Int32)), (0, .ref (h 0))]) hx hb dX5_takeOpen_84 rfl hl (by decide) rfl (fun ls hl => ?_)
  refine lv_aload_n hx hb dX5_takeOpen_85 rfl (lv_at hl 2 rfl) ?_
  refine va_get (D := D) (ci := 5) (v := .ref (h 1)) (C := RX5) (T := TX5) (N := 12) hx hb hts (se_iw iwX5) hown hK hP 0 rfl rfl 2 (by decide) (hts _ (List.mem_cons_of_mem _ qX5_f21)) (fun _ h9 => h9) rfl dX5_takeOpen_86 ?_
  refine lv_aload_n hx hb dX5_takeOpen_89 rfl (lv_at hl 2 rfl) ?_
  refine va_get (D := D) (ci := 5) (v := .ref (h 7)) (C := RX5) (T := TX5) (N := 12) hx hb hts (se_iw iwX5) hown hK hP 0 rfl rfl 6 (by decide) (hts _ (List.mem_cons_of_mem _ qX5_f49)) (fun _ h9 => h9) rfl dX5_takeOpen_90 ?_
  refine va_getN (D := D) (ci := 3) (v := .int (g1 7 5)) (C := RX3) (T := TX3) (N := 7) hx hb hts (se_iw iwX3) hown hK hP 7 rfl rfl 5 (by decide) (va_Nw.use rfl (hZ _ nX5_f226 rfl)) (fun _ h9 => h9) rfl dX5_takeOpen_93 ?_
  refine lv_aload_n hx hb dX5_takeOpen_96 rfl (lv_at hl 2 rfl) ?_
  refine va_get (D := D) (ci := 5) (v := .ref (h 7)) (C := RX5) (T := TX5) (N := 12) hx hb hts (se_iw iwX5) hown hK hP 0 rfl rfl 6 (by decide) (hts _ (List.mem_cons_of_mem _ qX5_f49)) (fun _ h9 => h9) rfl dX5_takeOpen_97 ?_
  refine va_getN (D := D) (ci := 3) (v := .int (g1 7 3)) (C := RX3) (T := TX3) (N := 7) hx hb hts (se_iw iwX3) hown hK hP 7 rfl rfl 3 (by decide) (va_Nw.use rfl (hZ _ nX5_f220 rfl)) (fun _ h9 => h9) rfl dX5_takeOpen_100 ?_
  refine lv_iload_n hx hb dX5_takeOpen_103 rfl (lv_at hl 0 rfl) ?_
  refine se_cvE (va_runVN (C := RX2) (As := [.int (g1 7 5), .int (g1 7 3), .int ((if (F_S_Segment_has_7 (se_u g1 1 9 (if ((if (g1 7 6) = 0 then 536 else (g1 7 6)) : Int32) < (g1 0 0) then ((if (g1 7 6) = 0 then 536 else (g1 7 6)) : Int32) else (g1 0 0))) 8) = 0 then (g1 1 4) else (g1 7 4)) : Int32)]) (rest := []) ⟨hx, hb, hml, hown, hts⟩ (c_S_Outgoing_windowIs l D k h _ (se_u g1 1 9 (if ((if (g1 7 6) = 0 then 536 else (g1 7 6)) : Int32) < (g1 0 0) then ((if (g1 7 6) = 0 then 536 else (g1 7 6)) : Int32) else (g1 0 0))) (g1 7 5) (g1 7 3) ((if (F_S_Segment_has_7 (se_u g1 1 9 (if ((if (g1 7 6) = 0 then 536 else (g1 7 6)) : Int32) < (g1 0 0) then ((if (g1 7 6) = 0 then 536 else (g1 7 6)) : Int32) else (g1 0 0))) 8) = 0 then (g1 1 4) else (g1 7 4)) : Int32)) (se_kVN 3 hts q_code_X2_windowIs (hZ _ nX5_m405 rfl) q_ini_StreamEnd_Outgoing q_instanceMethod_X2_windowIs q_sel_X2_windowIs (by decide +kernel) ⟨Nat.le_of_ble_eq_true rfl, Nat.le_of_ble_eq_true rfl⟩ rfl rfl) ⟨se_blind se_ZN_ok, va_recv hK hP (ci := 2) (q0 := 1) rfl rfl, se_pre se_ZN_ok hP hK hD hZ⟩ rfl rfl hl.1 rfl (lv_room (Nat.le_of_ble_eq_true rfl)) dX5_takeOpen_104 ⟨Nat.zero_le _, Nat.zero_le _⟩) hD hS hA (fun g2 H locs eg2 hP hD hS => ?_)
  exact se_rv hx hb hr hlocks hK hP hD hS dX5_takeOpen_107 (by subst eg2; rw [← hF, F_S_takeOpen_k1])
set_option maxRecDepth 100000 in
set_option maxHeartbeats 4000000 in
theorem c_S_takeWhenAsking (l : Launch) (D : va_G) (k : Nat → ClassId) (h : Nat → Nat) (sz : Nat) (g : se_G)  : Met l yX5_takeWhenAsking (se_w_X5_takeWhenAsking) ({ frames := 4, cells := 0, slots := 0, locals := 84 }) (va_Pc [.ref (h 0)] (se_Pre D se_cl [(k 2, .byte), (k 4, .int), (k 8, .byte), (k 10, .byte)] (se_WS k h g) se_ZN sz)) (se_Qv D se_cl [(k 2, .byte), (k 4, .int), (k 8, .byte), (k 10, .byte)] (se_WS k h) (F_S_takeWhenAsking g) (va_A (se_WS k h g) sz)) 0 0 (va_A (se_WS k h g) sz) := by
  refine se_met (Qc := se_Qv D se_cl [(k 2, .byte), (k 4, .int), (k 8, .byte), (k 10, .byte)] (se_WS k h) (F_S_takeWhenAsking g)) (cc := cX5_takeWhenAsking) (maxL := 2) (ret := none) (by decide) rfl (Nat.le_of_ble_eq_true rfl) ?_
  intro p e s m below meth c ls A hx hb hr hts hown hlocks hml hA hP hK hD hS hZ hl
  replace hl : lv_has ls 2 [(0, .ref (h 0))] := hl
  have J38 : ∀ (gj38 : se_G) (v1_38 : Int32) (H : Heap) (locs : List Loc) (ls : Array Slot), F_S_takeWhenAsking_j38 gj38 v1_38 = F_S_takeWhenAsking g → va_P D se_cl (se_WS k h gj38) H → va_D A (se_WS k h gj38) → va_S A s.heap H locs → lv_has ls 2 [(0, .ref (h 0)), (1, .int v1_38)] → W p l e ({ frames := 4, cells := 0, slots := 0, locals := 84 }) s m [.ref (h 0)].toArray below meth c H locs 0 0 (MQ below (se_Qv D se_cl [(k 2, .byte), (k 4, .int), (k 8, .byte), (k 10, .byte)] (se_WS k h) (F_S_takeWhenAsking g) A) [.ref (h 0)].toArray s 0 0 A) (F0 m 38 ls []) := by
    intro gj38 v1_38 H locs ls hF hP hD hS hl
    refine lv_aload_n hx hb dX5_takeWhenAsking_38 rfl (lv_at hl 0 rfl) ?_
    refine va_get (D := D) (ci := 5) (v := .ref (h 7)) (C := RX5) (T := TX5) (N := 12) hx hb hts (se_iw iwX5) hown hK hP 0 rfl rfl 6 (by decide) (hts _ (List.mem_cons_of_mem _ qX5_f49)) (fun _ h9 => h9) rfl dX5_takeWhenAsking_39 ?_
    refine lv_iconst (v := 4) hx hb dX5_takeWhenAsking_42 (by decide) ?_
    refine se_cp (va_runVN (C := RX3) (As := [.int 4]) (rest := []) ⟨hx, hb, hml, hown, hts⟩ (c_S_Segment_has_7 l D k h _ gj38 4) (se_kVN 1 hts q_code_X3_has (hZ _ nX5_m338 rfl) q_ini_StreamEnd_Segment q_instanceMethod_X3_has q_sel_X3_has (by decide +kernel) ⟨Nat.le_of_ble_eq_true rfl, Nat.le_of_ble_eq_true rfl⟩ rfl rfl) ⟨se_blind se_ZN_ok, va_recv hK hP (ci := 3) (q0 := 7) rfl rfl, se_pre se_ZN_ok hP hK hD hZ⟩ rfl rfl hl.1 rfl (lv_room (Nat.le_of_ble_eq_true rfl)) dX5_takeWhenAsking_43 ⟨Nat.zero_le _, Nat.zero_le _⟩) hD hS hA (fun H locs hP hD hS => ?_)
    refine lv_if_eq (tgt := 62) hx hb dX5_takeWhenAsking_46 (by decide) (fun c2 => ?_) (fun c2 => ?_)
    · refine lv_aload_n hx hb dX5_takeWhenAsking_62 rfl (lv_at hl 0 rfl) ?_
      refine va_get (D := D) (ci := 5) (v := .ref (h 7)) (C := RX5) (T := TX5) (N := 12) hx hb hts (se_iw iwX5) hown hK hP 0 rfl rfl 6 (by decide) (hts _ (List.mem_cons_of_mem _ qX5_f49)) (fun _ h9 => h9) rfl dX5_takeWhenAsking_63 ?_
      refine lv_iconst (v := 1) hx hb dX5_takeWhenAsking_66 (by decide) ?_
      refine se_cp (va_runVN (C := RX3) (As := [.int 1]) (rest := []) ⟨hx, hb, hml, hown, hts⟩ (c_S_Segment_has_7 l D k h _ gj38 1) (se_kVN 1 hts q_code_X3_has (hZ _ nX5_m338 rfl) q_ini_StreamEnd_Segment q_instanceMethod_X3_has q_sel_X3_has (by decide +kernel) ⟨Nat.le_of_ble_eq_true rfl, Nat.le_of_ble_eq_true rfl⟩ rfl rfl) ⟨se_blind se_ZN_ok, va_recv hK hP (ci := 3) (q0 := 7) rfl rfl, se_pre se_ZN_ok hP hK hD hZ⟩ rfl rfl hl.1 rfl (lv_room (Nat.le_of_ble_eq_true rfl)) dX5_takeWhenAsking_67 ⟨Nat.zero_le _, Nat.zero_le _⟩) hD hS hA (fun H locs hP hD hS => ?_)
      refine lv_if_eq (tgt := 122) hx hb dX5_takeWhenAsking_70 (by decide) (fun c3 => ?_) (fun c3 => ?_)
      · exact se_rv hx hb hr hlocks hK hP hD hS dX5_takeWhenAsking_122 (by rw [← hF, F_S_takeWhenAsking_j38, if_pos c2, if_pos c3])
      · refine lv_aload_n hx hb dX5_takeWhenAsking_73 rfl (lv_at hl 0 rfl) ?_
        refine se_cvE (va_runV (C := RX5) (As := []) (rest := []) ⟨hx, hb, hml, hown, hts⟩ (c_S_takeOpen l D k h _ gj38) (se_kV 0 hts q_code_X5_takeOpen qX5_m397 q_ini_StreamEnd q_instanceMethod_X5_takeOpen q_sel_X5_takeOpen (by decide +kernel) ⟨Nat.le_of_ble_eq_true rfl, Nat.le_of_ble_eq_true rfl⟩ rfl rfl) ⟨se_blind se_ZN_ok, va_recv hK hP (ci := 5) (q0 := 0) rfl rfl, se_pre se_ZN_ok hP hK hD hZ⟩ rfl rfl hl.1 rfl (lv_room (Nat.le_of_ble_eq_true rfl)) dX5_takeWhenAsking_74 ⟨Nat.zero_le _, Nat.zero_le _⟩) hD hS hA (fun g1 H locs eg1 hP hD hS => ?_)
        replace hF : (F_S_takeWhenAsking_k1 v1_38 (F_S_takeOpen gj38)) = F_S_takeWhenAsking g := by rw [← hF, F_S_takeWhenAsking_j38, if_pos c2, if_neg c3]
        rw [← eg1] at hF
        replace hF : F_S_takeWhenAsking_k1 v1_38 g1 = F_S_takeWhenAsking g := hF
        refine lv_iload_n hx hb dX5_takeWhenAsking_77 rfl (lv_at hl 1 rfl) ?_
        refine lv_if_eq (tgt := 109) hx hb dX5_takeWhenAsking_78 (by decide) (fun c4 => ?_) (fun c4 => ?_)
        · refine lv_aload_n hx hb dX5_takeWhenAsking_109 rfl (lv_at hl 0 rfl) ?_
          refine lv_iconst (v := 3) hx hb dX5_takeWhenAsking_110 (by decide) ?_
          refine va_put (D := D) (ci := 5) (v := .int 3) (ty := .int) (C := RX5) (T := TX5) (N := 12) hx hb hts (se_iw iwX5) tyX5 tyX5_ok nmX5 hown hK hP hD hS 0 rfl rfl 9 (by decide) (hts _ (List.mem_cons_of_mem _ qX5_f60)) (fun _ h9 => h9) rfl (by decide +kernel) rfl rfl (Nat.le_of_ble_eq_true rfl) dX5_takeWhenAsking_111 (fun H locs hP hD hS => ?_)
          replace hP : va_P D se_cl (se_WS k h (se_u g1 0 9 3)) H := hP
          replace hD : va_D A (se_WS k h (se_u g1 0 9 3)) := hD
          refine lv_aload_n hx hb dX5_takeWhenAsking_114 rfl (lv_at hl 0 rfl) ?_
          refine va_get (D := D) (ci := 5) (v := .ref (h 6)) (C := RX5) (T := TX5) (N := 12) hx hb hts (se_iw iwX5) hown hK hP 0 rfl rfl 5 (by decide) (hts _ (List.mem_cons_of_mem _ qX5_f42)) (fun _ h9 => h9) rfl dX5_takeWhenAsking_115 ?_
          refine lv_iconst (v := 1) hx hb dX5_takeWhenAsking_118 (by decide) ?_
          refine va_putN (D := D) (ci := 0) (v := .int 1) (ty := .boolean) (C := RX0) (T := TX0) (N := 9) hx hb hts (se_iw iwX0) tyX0 tyX0_ok nmX0 hown hK hP hD hS 6 rfl rfl 4 (by decide) (va_Nw.use rfl (hZ _ nX5_f173 rfl)) (fun _ h9 => h9) rfl (by decide +kernel) rfl rfl (Nat.le_of_ble_eq_true rfl) dX5_takeWhenAsking_119 (fun H locs hP hD hS => ?_)
          replace hP : va_P D se_cl (se_WS k h (se_u (se_u g1 0 9 3) 6 4 1)) H := hP
          replace hD : va_D A (se_WS k h (se_u (se_u g1 0 9 3) 6 4 1)) := hD
          exact se_rv hx hb hr hlocks hK hP hD hS dX5_takeWhenAsking_122 (by rw [← hF, F_S_takeWhenAsking_k1, if_pos c4])
        · refine lv_aload_n hx hb dX5_takeWhenAsking_81 rfl (lv_at hl 0 rfl) ?_
          refine lv_iconst (v := 4) hx hb dX5_takeWhenAsking_82 (by decide) ?_
          refine va_put (D := D) (ci := 5) (v := .int 4) (ty := .int) (C := RX5) (T := TX5) (N := 12) hx hb hts (se_iw iwX5) tyX5 tyX5_ok nmX5 hown hK hP hD hS 0 rfl rfl 9 (by decide) (hts _ (List.mem_cons_of_mem _ qX5_f60)) (fun _ h9 => h9) rfl (by decide +kernel) rfl rfl (Nat.le_of_ble_eq_true rfl) dX5_takeWhenAsking_83 (fun H locs hP hD hS => ?_)
          replace hP : va_P D se_cl (se_WS k h (se_u g1 0 9 4)) H := hP
          replace hD : va_D A (se_WS k h (se_u g1 0 9 4)) := hD
          refine lv_aload_n hx hb dX5_takeWhenAsking_86 rfl (lv_at hl 0 rfl) ?_
          refine va_get (D := D) (ci := 5) (v := .ref (h 6)) (C := RX5) (T := TX5) (N := 12) hx hb hts (se_iw iwX5) hown hK hP 0 rfl rfl 5 (by decide) (hts _ (List.mem_cons_of_mem _ qX5_f42)) (fun _ h9 => h9) rfl dX5_takeWhenAsking_87 ?_
          refine lv_iconst (v := 0) hx hb dX5_takeWhenAsking_90 (by decide) ?_
          refine va_putN (D := D) (ci := 0) (v := .int 0) (ty := .boolean) (C := RX0) (T := TX0) (N := 9) hx hb hts (se_iw iwX0) tyX0 tyX0_ok nmX0 hown hK hP hD hS 6 rfl rfl 4 (by decide) (va_Nw.use rfl (hZ _ nX5_f173 rfl)) (fun _ h9 => h9) rfl (by decide +kernel) rfl rfl (Nat.le_of_ble_eq_true rfl) dX5_takeWhenAsking_91 (fun H locs hP hD hS => ?_)
          replace hP : va_P D se_cl (se_WS k h (se_u (se_u g1 0 9 4) 6 4 0)) H := hP
          replace hD : va_D A (se_WS k h (se_u (se_u g1 0 9 4) 6 4 0)) := hD
          refine lv_aload_n hx hb dX5_takeWhenAsking_94 rfl (lv_at hl 0 rfl) ?_
          refine se_cvE (va_runV (C := RX5) (As := []) (rest := []) ⟨hx, hb, hml, hown, hts⟩ (c_S_takeThanked l D k h _ (se_u (se_u g1 0 9 4) 6 4 0)) (se_kV 0 hts q_code_X5_takeThanked qX5_m400 q_ini_StreamEnd q_instanceMethod_X5_takeThanked q_sel_X5_takeThanked (by decide +kernel) ⟨Nat.le_of_ble_eq_true rfl, Nat.le_of_ble_eq_true rfl⟩ rfl rfl) ⟨se_blind se_ZN_ok, va_recv hK hP (ci := 5) (q0 := 0) rfl rfl, se_pre se_ZN_ok hP hK hD hZ⟩ rfl rfl hl.1 rfl (lv_room (Nat.le_of_ble_eq_true rfl)) dX5_takeWhenAsking_95 ⟨Nat.zero_le _, Nat.zero_le _⟩) hD hS hA (fun g2 H locs eg2 hP hD hS => ?_)
          refine lv_aload_n hx hb dX5_takeWhenAsking_98 rfl (lv_at hl 0 rfl) ?_
          refine va_get (D := D) (ci := 5) (v := .ref (h 6)) (C := RX5) (T := TX5) (N := 12) hx hb hts (se_iw iwX5) hown hK hP 0 rfl rfl 5 (by decide) (hts _ (List.mem_cons_of_mem _ qX5_f42)) (fun _ h9 => h9) rfl dX5_takeWhenAsking_99 ?_
          refine lv_iconst (v := 1) hx hb dX5_takeWhenAsking_102 (by decide) ?_
          refine va_putN (D := D) (ci := 0) (v := .int 1) (ty := .boolean) (C := RX0) (T := TX0) (N := 9) hx hb hts (se_iw iwX0) tyX0 tyX0_ok nmX0 hown hK hP hD hS 6 rfl rfl 8 (by decide) (va_Nw.use rfl (hZ _ nX5_f206 rfl)) (fun _ h9 => h9) rfl (by decide +kernel) rfl rfl (Nat.le_of_ble_eq_true rfl) dX5_takeWhenAsking_103 (fun H locs hP hD hS => ?_)
          replace hP : va_P D se_cl (se_WS k h (se_u g2 6 8 1)) H := hP
          replace hD : va_D A (se_WS k h (se_u g2 6 8 1)) := hD
          refine lv_goto (tgt := 122) hx hb dX5_takeWhenAsking_106 (by decide) ?_
          exact se_rv hx hb hr hlocks hK hP hD hS dX5_takeWhenAsking_122 (by subst eg2; rw [← hF, F_S_takeWhenAsking_k1, if_neg c4])
    · refine lv_iload_n hx hb dX5_takeWhenAsking_49 rfl (lv_at hl 1 rfl) ?_
      refine lv_if_eq (tgt := 122) hx hb dX5_takeWhenAsking_50 (by decide) (fun c5 => ?_) (fun c5 => ?_)
      · exact se_rv hx hb hr hlocks hK hP hD hS dX5_takeWhenAsking_122 (by rw [← hF, F_S_takeWhenAsking_j38, if_neg c2, if_pos c5])
      · refine lv_aload_n hx hb dX5_takeWhenAsking_53 rfl (lv_at hl 0 rfl) ?_
        refine lv_bipush (v := 11) hx hb dX5_takeWhenAsking_54 (by decide) ?_
        refine se_cvE (va_runV (C := RX5) (As := [.int 11]) (rest := []) ⟨hx, hb, hml, hown, hts⟩ (c_S_halt l D k h _ gj38 11) (se_kV 1 hts q_code_X5_halt qX5_m132 q_ini_StreamEnd q_instanceMethod_X5_halt q_sel_X5_halt (by decide +kernel) ⟨Nat.le_of_ble_eq_true rfl, Nat.le_of_ble_eq_true rfl⟩ rfl rfl) ⟨se_blind se_ZN_ok, va_recv hK hP (ci := 5) (q0 := 0) rfl rfl, se_pre se_ZN_ok hP hK hD hZ⟩ rfl rfl hl.1 rfl (lv_room (Nat.le_of_ble_eq_true rfl)) dX5_takeWhenAsking_56 ⟨Nat.zero_le _, Nat.zero_le _⟩) hD hS hA (fun g3 H locs eg3 hP hD hS => ?_)
        refine lv_goto (tgt := 122) hx hb dX5_takeWhenAsking_59 (by decide) ?_
        exact se_rv hx hb hr hlocks hK hP hD hS dX5_takeWhenAsking_122 (by subst eg3; rw [← hF, F_S_takeWhenAsking_j38, if_neg c2, if_neg c5])
  have hF : F_S_takeWhenAsking g = F_S_takeWhenAsking g := rfl
  refine lv_aload_n hx hb dX5_takeWhenAsking_0 rfl (lv_at hl 0 rfl) ?_
  refine va_get (D := D) (ci := 5) (v := .ref (h 7)) (C := RX5) (T := TX5) (N := 12) hx hb hts (se_iw iwX5) hown hK hP 0 rfl rfl 6 (by decide) (hts _ (List.mem_cons_of_mem _ qX5_f49)) (fun _ h9 => h9) rfl dX5_takeWhenAsking_1 ?_
  refine lv_bipush (v := 8) hx hb dX5_takeWhenAsking_4 (by decide) ?_
  refine se_cp (va_runVN (C := RX3) (As := [.int 8]) (rest := []) ⟨hx, hb, hml, hown, hts⟩ (c_S_Segment_has_7 l D k h _ g 8) (se_kVN 1 hts q_code_X3_has (hZ _ nX5_m338 rfl) q_ini_StreamEnd_Segment q_instanceMethod_X3_has q_sel_X3_has (by decide +kernel) ⟨Nat.le_of_ble_eq_true rfl, Nat.le_of_ble_eq_true rfl⟩ rfl rfl) ⟨se_blind se_ZN_ok, va_recv hK hP (ci := 3) (q0 := 7) rfl rfl, se_pre se_ZN_ok hP hK hD hZ⟩ rfl rfl hl.1 rfl (lv_room (Nat.le_of_ble_eq_true rfl)) dX5_takeWhenAsking_6 ⟨Nat.zero_le _, Nat.zero_le _⟩) hD hS hA (fun H locs hP hD hS => ?_)
  refine lv_istore_n (lv' := [(1, .int (F_S_Segment_has_7 g 8)), (0, .ref (h 0))]) hx hb dX5_takeWhenAsking_9 rfl hl (by decide) rfl (fun ls hl => ?_)
  refine lv_iload_n hx hb dX5_takeWhenAsking_10 rfl (lv_at hl 0 rfl) ?_
  refine lv_if_eq (tgt := 38) hx hb dX5_takeWhenAsking_11 (by decide) (fun c1 => ?_) (fun c1 => ?_)
  · exact J38 g (F_S_Segment_has_7 g 8) _ _ ls (by rw [F_S_takeWhenAsking, if_pos c1]) hP hD hS (lv_sub hl [1, 0] rfl)
  · refine lv_aload_n hx hb dX5_takeWhenAsking_14 rfl (lv_at hl 1 rfl) ?_
    refine va_get (D := D) (ci := 5) (v := .ref (h 7)) (C := RX5) (T := TX5) (N := 12) hx hb hts (se_iw iwX5) hown hK hP 0 rfl rfl 6 (by decide) (hts _ (List.mem_cons_of_mem _ qX5_f49)) (fun _ h9 => h9) rfl dX5_takeWhenAsking_15 ?_
    refine va_getN (D := D) (ci := 3) (v := .int (g 7 4)) (C := RX3) (T := TX3) (N := 7) hx hb hts (se_iw iwX3) hown hK hP 7 rfl rfl 4 (by decide) (va_Nw.use rfl (hZ _ nX5_f223 rfl)) (fun _ h9 => h9) rfl dX5_takeWhenAsking_18 ?_
    refine lv_aload_n hx hb dX5_takeWhenAsking_21 rfl (lv_at hl 1 rfl) ?_
    refine va_get (D := D) (ci := 5) (v := .ref (h 1)) (C := RX5) (T := TX5) (N := 12) hx hb hts (se_iw iwX5) hown hK hP 0 rfl rfl 2 (by decide) (hts _ (List.mem_cons_of_mem _ qX5_f21)) (fun _ h9 => h9) rfl dX5_takeWhenAsking_22 ?_
    refine va_getN (D := D) (ci := 2) (v := .int (g 1 6)) (C := RX2) (T := TX2) (N := 13) hx hb hts (se_iw iwX2) hown hK hP 1 rfl rfl 6 (by decide) (va_Nw.use rfl (hZ _ nX5_f137 rfl)) (fun _ h9 => h9) rfl dX5_takeWhenAsking_25 ?_
    refine lv_icmp_eq (tgt := 38) hx hb dX5_takeWhenAsking_28 (by decide) (fun c6 => ?_) (fun c6 => ?_)
    · exact J38 g (F_S_Segment_has_7 g 8) _ _ ls (by rw [F_S_takeWhenAsking, if_neg c1, if_pos c6]) hP hD hS (lv_sub hl [1, 0] rfl)
    · refine lv_aload_n hx hb dX5_takeWhenAsking_31 rfl (lv_at hl 1 rfl) ?_
      refine se_cvE (va_runV (C := RX5) (As := []) (rest := []) ⟨hx, hb, hml, hown, hts⟩ (c_S_answerWithReset l D k h _ g) (se_kV 0 hts q_code_X5_answerWithReset qX5_m372 q_ini_StreamEnd q_instanceMethod_X5_answerWithReset q_sel_X5_answerWithReset (by decide +kernel) ⟨Nat.le_of_ble_eq_true rfl, Nat.le_of_ble_eq_true rfl⟩ rfl rfl) ⟨se_blind se_ZN_ok, va_recv hK hP (ci := 5) (q0 := 0) rfl rfl, se_pre se_ZN_ok hP hK hD hZ⟩ rfl rfl hl.1 rfl (lv_room (Nat.le_of_ble_eq_true rfl)) dX5_takeWhenAsking_32 ⟨Nat.zero_le _, Nat.zero_le _⟩) hD hS hA (fun g4 H locs eg4 hP hD hS => ?_)
      refine lv_goto (tgt := 122) hx hb dX5_takeWhenAsking_35 (by decide) ?_
      exact se_rv hx hb hr hlocks hK hP hD hS dX5_takeWhenAsking_122 (by subst eg4; rw [F_S_takeWhenAsking, if_neg c1, if_neg c6])
end
section
/-! written by program (wip/gen) -/
set_option maxRecDepth 100000 in
set_option maxHeartbeats 4000000 in
theorem c_S_takeWhenListening (l : Launch) (D : va_G) (k : Nat → ClassId) (h : Nat → Nat) (sz : Nat) (g : se_G)  : Met l yX5_takeWhenListening (se_w_X5_takeWhenListening) ({ frames := 3, cells := 0, slots := 0, locals := 61 }) (va_Pc [.ref (h 0)] (se_Pre D se_cl [(k 2, .byte), (k 4, .int), (k 8, .byte), (k 10, .byte)] (se_WS k h g) se_ZN sz)) (se_Qv D se_cl [(k 2, .byte), (k 4, .int), (k 8, .byte), (k 10, .byte)] (se_WS k h) (F_S_takeWhenListening g) (va_A (se_WS k h g) sz)) 0 0 (va_A (se_WS k h g) sz) := by
  refine se_met (Qc := se_Qv D se_cl [(k 2, .byte), (k 4, .int), (k 8, .byte), (k 10, .byte)] (se_WS k h) (F_S_takeWhenListening g)) (cc := cX5_takeWhenListening) (maxL := 1) (ret := none) (by decide) rfl (Nat.le_of_ble_eq_true rfl) ?_
  intro p e s m below meth c ls A hx hb hr hts hown hlocks hml hA hP hK hD hS hZ hl
  replace hl : lv_has ls 1 [(0, .ref (h 0))] := hl
  have hF : F_S_takeWhenListening g = F_S_takeWhenListening g := rfl
  refine lv_aload_n hx hb dX5_takeWhenListening_0 rfl (lv_at hl 0 rfl) ?_
  refine va_get (D := D) (ci := 5) (v := .ref (h 7)) (C := RX5) (T := TX5) (N := 12) hx hb hts (se_iw iwX5) hown hK hP 0 rfl rfl 6 (by decide) (hts _ (List.mem_cons_of_mem _ qX5_f49)) (fun _ h9 => h9) rfl dX5_takeWhenListening_1 ?_
  refine lv_iconst (v := 4) hx hb dX5_takeWhenListening_4 (by decide) ?_
  refine se_cp (va_runVN (C := RX3) (As := [.int 4]) (rest := []) ⟨hx, hb, hml, hown, hts⟩ (c_S_Segment_has_7 l D k h _ g 4) (se_kVN 1 hts q_code_X3_has (hZ _ nX5_m338 rfl) q_ini_StreamEnd_Segment q_instanceMethod_X3_has q_sel_X3_has (by decide +kernel) ⟨Nat.le_of_ble_eq_true rfl, Nat.le_of_ble_eq_true rfl⟩ rfl rfl) ⟨se_blind se_ZN_ok, va_recv hK hP (ci := 3) (q0 := 7) rfl rfl, se_pre se_ZN_ok hP hK hD hZ⟩ rfl rfl hl.1 rfl (lv_room (Nat.le_of_ble_eq_true rfl)) dX5_takeWhenListening_5 ⟨Nat.zero_le _, Nat.zero_le _⟩) hD hS hA (fun H locs hP hD hS => ?_)
  refine lv_if_eq (tgt := 12) hx hb dX5_takeWhenListening_8 (by decide) (fun c1 => ?_) (fun c1 => ?_)
  · refine lv_aload_n hx hb dX5_takeWhenListening_12 rfl (lv_at hl 0 rfl) ?_
    refine va_get (D := D) (ci := 5) (v := .ref (h 7)) (C := RX5) (T := TX5) (N := 12) hx hb hts (se_iw iwX5) hown hK hP 0 rfl rfl 6 (by decide) (hts _ (List.mem_cons_of_mem _ qX5_f49)) (fun _ h9 => h9) rfl dX5_takeWhenListening_13 ?_
    refine lv_bipush (v := 8) hx hb dX5_takeWhenListening_16 (by decide) ?_
    refine se_cp (va_runVN (C := RX3) (As := [.int 8]) (rest := []) ⟨hx, hb, hml, hown, hts⟩ (c_S_Segment_has_7 l D k h _ g 8) (se_kVN 1 hts q_code_X3_has (hZ _ nX5_m338 rfl) q_ini_StreamEnd_Segment q_instanceMethod_X3_has q_sel_X3_has (by decide +kernel) ⟨Nat.le_of_ble_eq_true rfl, Nat.le_of_ble_eq_true rfl⟩ rfl rfl) ⟨se_blind se_ZN_ok, va_recv hK hP (ci := 3) (q0 := 7) rfl rfl, se_pre se_ZN_ok hP hK hD hZ⟩ rfl rfl hl.1 rfl (lv_room (Nat.le_of_ble_eq_true rfl)) dX5_takeWhenListening_18 ⟨Nat.zero_le _, Nat.zero_le _⟩) hD hS hA (fun H locs hP hD hS => ?_)
    refine lv_if_eq (tgt := 31) hx hb dX5_takeWhenListening_21 (by decide) (fun c2 => ?_) (fun c2 => ?_)
    · refine lv_aload_n hx hb dX5_takeWhenListening_31 rfl (lv_at hl 0 rfl) ?_
      refine va_get (D := D) (ci := 5) (v := .ref (h 7)) (C := RX5) (T := TX5) (N := 12) hx hb hts (se_iw iwX5) hown hK hP 0 rfl rfl 6 (by decide) (hts _ (List.mem_cons_of_mem _ qX5_f49)) (fun _ h9 => h9) rfl dX5_takeWhenListening_32 ?_
      refine lv_iconst (v := 1) hx hb dX5_takeWhenListening_35 (by decide) ?_
      refine se_cp (va_runVN (C := RX3) (As := [.int 1]) (rest := []) ⟨hx, hb, hml, hown, hts⟩ (c_S_Segment_has_7 l D k h _ g 1) (se_kVN 1 hts q_code_X3_has (hZ _ nX5_m338 rfl) q_ini_StreamEnd_Segment q_instanceMethod_X3_has q_sel_X3_has (by decide +kernel) ⟨Nat.le_of_ble_eq_true rfl, Nat.le_of_ble_eq_true rfl⟩ rfl rfl) ⟨se_blind se_ZN_ok, va_recv hK hP (ci := 3) (q0 := 7) rfl rfl, se_pre se_ZN_ok hP hK hD hZ⟩ rfl rfl hl.1 rfl (lv_room (Nat.le_of_ble_eq_true rfl)) dX5_takeWhenListening_36 ⟨Nat.zero_le _, Nat.zero_le _⟩) hD hS hA (fun H locs hP hD hS => ?_)
      refine lv_if_eq (tgt := 55) hx hb dX5_takeWhenListening_39 (by decide) (fun c3 => ?_) (fun c3 => ?_)
      · exact se_rv hx hb hr hlocks hK hP hD hS dX5_takeWhenListening_55 (by rw [F_S_takeWhenListening, if_pos c1, if_pos c2, if_pos c3])
      · refine lv_aload_n hx hb dX5_takeWhenListening_42 rfl (lv_at hl 0 rfl) ?_
        refine se_cvE (va_runV (C := RX5) (As := []) (rest := []) ⟨hx, hb, hml, hown, hts⟩ (c_S_takeOpen l D k h _ g) (se_kV 0 hts q_code_X5_takeOpen qX5_m397 q_ini_StreamEnd q_instanceMethod_X5_takeOpen q_sel_X5_takeOpen (by decide +kernel) ⟨Nat.le_of_ble_eq_true rfl, Nat.le_of_ble_eq_true rfl⟩ rfl rfl) ⟨se_blind se_ZN_ok, va_recv hK hP (ci := 5) (q0 := 0) rfl rfl, se_pre se_ZN_ok hP hK hD hZ⟩ rfl rfl hl.1 rfl (lv_room (Nat.le_of_ble_eq_true rfl)) dX5_takeWhenListening_43 ⟨Nat.zero_le _, Nat.zero_le _⟩) hD hS hA (fun g1 H locs eg1 hP hD hS => ?_)
        refine lv_aload_n hx hb dX5_takeWhenListening_46 rfl (lv_at hl 0 rfl) ?_
        refine lv_iconst (v := 3) hx hb dX5_takeWhenListening_47 (by decide) ?_
        refine va_put (D := D) (ci := 5) (v := .int 3) (ty := .int) (C := RX5) (T := TX5) (N := 12) hx hb hts (se_iw iwX5) tyX5 tyX5_ok nmX5 hown hK hP hD hS 0 rfl rfl 9 (by decide) (hts _ (List.mem_cons_of_mem _ qX5_f60)) (fun _ h9 => h9) rfl (by decide +kernel) rfl rfl (Nat.le_of_ble_eq_true rfl) dX5_takeWhenListening_48 (fun H locs hP hD hS => ?_)
        replace hP : va_P D se_cl (se_WS k h (se_u g1 0 9 3)) H := hP
        replace hD : va_D A (se_WS k h (se_u g1 0 9 3)) := hD
        refine lv_aload_n hx hb dX5_takeWhenListening_51 rfl (lv_at hl 0 rfl) ?_
        refine se_cvE (va_runV (C := RX5) (As := []) (rest := []) ⟨hx, hb, hml, hown, hts⟩ (c_S_openIsDue l D k h _ (se_u g1 0 9 3)) (se_kV 0 hts q_code_X5_openIsDue qX5_m293 q_ini_StreamEnd q_instanceMethod_X5_openIsDue q_sel_X5_openIsDue (by decide +kernel) ⟨Nat.le_of_ble_eq_true rfl, Nat.le_of_ble_eq_true rfl⟩ rfl rfl) ⟨se_blind se_ZN_ok, va_recv hK hP (ci := 5) (q0 := 0) rfl rfl, se_pre se_ZN_ok hP hK hD hZ⟩ rfl rfl hl.1 rfl (lv_room (Nat.le_of_ble_eq_true rfl)) dX5_takeWhenListening_52 ⟨Nat.zero_le _, Nat.zero_le _⟩) hD hS hA (fun g2 H locs eg2 hP hD hS => ?_)
        exact se_rv hx hb hr hlocks hK hP hD hS dX5_takeWhenListening_55 (by subst eg1; subst eg2; rw [F_S_takeWhenListening, if_pos c1, if_pos c2, if_neg c3])
    · refine lv_aload_n hx hb dX5_takeWhenListening_24 rfl (lv_at hl 0 rfl) ?_
      refine se_cvE (va_runV (C := RX5) (As := []) (rest := []) ⟨hx, hb, hml, hown, hts⟩ (c_S_answerWithReset l D k h _ g) (se_kV 0 hts q_code_X5_answerWithReset qX5_m372 q_ini_StreamEnd q_instanceMethod_X5_answerWithReset q_sel_X5_answerWithReset (by decide +kernel) ⟨Nat.le_of_ble_eq_true rfl, Nat.le_of_ble_eq_true rfl⟩ rfl rfl) ⟨se_blind se_ZN_ok, va_recv hK hP (ci := 5) (q0 := 0) rfl rfl, se_pre se_ZN_ok hP hK hD hZ⟩ rfl rfl hl.1 rfl (lv_room (Nat.le_of_ble_eq_true rfl)) dX5_takeWhenListening_25 ⟨Nat.zero_le _, Nat.zero_le _⟩) hD hS hA (fun g3 H locs eg3 hP hD hS => ?_)
      refine lv_goto (tgt := 55) hx hb dX5_takeWhenListening_28 (by decide) ?_
      exact se_rv hx hb hr hlocks hK hP hD hS dX5_takeWhenListening_55 (by subst eg3; rw [F_S_takeWhenListening, if_pos c1, if_neg c2])
  · exact se_rv hx hb hr hlocks hK hP hD hS dX5_takeWhenListening_11 (by rw [F_S_takeWhenListening, if_neg c1])
set_option maxRecDepth 100000 in
set_option maxHeartbeats 4000000 in
theorem c_S_takeSegment (l : Launch) (D : va_G) (k : Nat → ClassId) (h : Nat → Nat) (sz : Nat) (g : se_G)  (hI : (g 7 1).toInt ≤ 1460) : Met l yX5_takeSegment (se_w_X5_takeSegment) ({ frames := 5, cells := 0, slots := 0, locals := 105 }) (va_Pc [.ref (h 0)] (se_Pre D se_cl [(k 2, .byte), (k 4, .int), (k 8, .byte), (k 10, .byte)] (se_WS k h g) se_ZN sz)) (se_Qv D se_cl [(k 2, .byte), (k 4, .int), (k 8, .byte), (k 10, .byte)] (se_WS k h) (F_S_takeSegment g) (va_A (se_WS k h g) sz)) 0 0 (va_A (se_WS k h g) sz) := by
  refine se_met (Qc := se_Qv D se_cl [(k 2, .byte), (k 4, .int), (k 8, .byte), (k 10, .byte)] (se_WS k h) (F_S_takeSegment g)) (cc := cX5_takeSegment) (maxL := 1) (ret := none) (by decide) rfl (Nat.le_of_ble_eq_true rfl) ?_
  intro p e s m below meth c ls A hx hb hr hts hown hlocks hml hA hP hK hD hS hZ hl
  replace hl : lv_has ls 1 [(0, .ref (h 0))] := hl
  have hF : F_S_takeSegment g = F_S_takeSegment g := rfl
  refine lv_aload_n hx hb dX5_takeSegment_0 rfl (lv_at hl 0 rfl) ?_
  refine se_cp (va_runV (C := RX5) (As := []) (rest := []) ⟨hx, hb, hml, hown, hts⟩ (c_S_isEnded l D k h _ g) (se_kV 0 hts q_code_X5_isEnded qX5_m69 q_ini_StreamEnd q_instanceMethod_X5_isEnded q_sel_X5_isEnded (by decide +kernel) ⟨Nat.le_of_ble_eq_true rfl, Nat.le_of_ble_eq_true rfl⟩ rfl rfl) ⟨se_blind se_ZN_ok, va_recv hK hP (ci := 5) (q0 := 0) rfl rfl, se_pre se_ZN_ok hP hK hD hZ⟩ rfl rfl hl.1 rfl (lv_room (Nat.le_of_ble_eq_true rfl)) dX5_takeSegment_1 ⟨Nat.zero_le _, Nat.zero_le _⟩) hD hS hA (fun H locs hP hD hS => ?_)
  refine lv_if_eq (tgt := 14) hx hb dX5_takeSegment_4 (by decide) (fun c1 => ?_) (fun c1 => ?_)
  · refine lv_aload_n hx hb dX5_takeSegment_14 rfl (lv_at hl 0 rfl) ?_
    refine va_get (D := D) (ci := 5) (v := .int (g 0 9)) (C := RX5) (T := TX5) (N := 12) hx hb hts (se_iw iwX5) hown hK hP 0 rfl rfl 9 (by decide) (hts _ (List.mem_cons_of_mem _ qX5_f60)) (fun _ h9 => h9) rfl dX5_takeSegment_15 ?_
    refine lv_iconst (v := 1) hx hb dX5_takeSegment_18 (by decide) ?_
    refine lv_icmp_ne (tgt := 29) hx hb dX5_takeSegment_19 (by decide) (fun c2 => ?_) (fun c2 => ?_)
    · refine lv_aload_n hx hb dX5_takeSegment_29 rfl (lv_at hl 0 rfl) ?_
      refine va_get (D := D) (ci := 5) (v := .int (g 0 9)) (C := RX5) (T := TX5) (N := 12) hx hb hts (se_iw iwX5) hown hK hP 0 rfl rfl 9 (by decide) (hts _ (List.mem_cons_of_mem _ qX5_f60)) (fun _ h9 => h9) rfl dX5_takeSegment_30 ?_
      refine lv_iconst (v := 2) hx hb dX5_takeSegment_33 (by decide) ?_
      refine lv_icmp_ne (tgt := 44) hx hb dX5_takeSegment_34 (by decide) (fun c3 => ?_) (fun c3 => ?_)
      · refine lv_aload_n hx hb dX5_takeSegment_44 rfl (lv_at hl 0 rfl) ?_
        refine va_get (D := D) (ci := 5) (v := .ref (h 3)) (C := RX5) (T := TX5) (N := 12) hx hb hts (se_iw iwX5) hown hK hP 0 rfl rfl 3 (by decide) (hts _ (List.mem_cons_of_mem _ qX5_f28)) (fun _ h9 => h9) rfl dX5_takeSegment_45 ?_
        refine lv_aload_n hx hb dX5_takeSegment_48 rfl (lv_at hl 0 rfl) ?_
        refine va_get (D := D) (ci := 5) (v := .ref (h 7)) (C := RX5) (T := TX5) (N := 12) hx hb hts (se_iw iwX5) hown hK hP 0 rfl rfl 6 (by decide) (hts _ (List.mem_cons_of_mem _ qX5_f49)) (fun _ h9 => h9) rfl dX5_takeSegment_49 ?_
        refine va_getN (D := D) (ci := 3) (v := .int (g 7 3)) (C := RX3) (T := TX3) (N := 7) hx hb hts (se_iw iwX3) hown hK hP 7 rfl rfl 3 (by decide) (va_Nw.use rfl (hZ _ nX5_f220 rfl)) (fun _ h9 => h9) rfl dX5_takeSegment_52 ?_
        refine lv_aload_n hx hb dX5_takeSegment_55 rfl (lv_at hl 0 rfl) ?_
        refine va_get (D := D) (ci := 5) (v := .ref (h 7)) (C := RX5) (T := TX5) (N := 12) hx hb hts (se_iw iwX5) hown hK hP 0 rfl rfl 6 (by decide) (hts _ (List.mem_cons_of_mem _ qX5_f49)) (fun _ h9 => h9) rfl dX5_takeSegment_56 ?_
        refine se_cp (va_runVN (C := RX3) (As := []) (rest := [.int (g 7 3), .ref (h 3)]) ⟨hx, hb, hml, hown, hts⟩ (c_S_Segment_size_7 l D k h _ g) (se_kVN 0 hts q_code_X3_size (hZ _ nX5_m381 rfl) q_ini_StreamEnd_Segment q_instanceMethod_X3_size q_sel_X3_size (by decide +kernel) ⟨Nat.le_of_ble_eq_true rfl, Nat.le_of_ble_eq_true rfl⟩ rfl rfl) ⟨se_blind se_ZN_ok, va_recv hK hP (ci := 3) (q0 := 7) rfl rfl, se_pre se_ZN_ok hP hK hD hZ⟩ rfl rfl hl.1 rfl (lv_room (Nat.le_of_ble_eq_true rfl)) dX5_takeSegment_59 ⟨Nat.zero_le _, Nat.zero_le _⟩) hD hS hA (fun H locs hP hD hS => ?_)
        refine se_cp (va_runVN (C := RX1) (As := [.int (g 7 3), .int (F_S_Segment_size_7 g)]) (rest := []) ⟨hx, hb, hml, hown, hts⟩ (c_S_Incoming_fits l D k h _ g (g 7 3) (F_S_Segment_size_7 g)) (se_kVN 2 hts q_code_X1_fits (hZ _ nX5_m384 rfl) q_ini_StreamEnd_Incoming q_instanceMethod_X1_fits q_sel_X1_fits (by decide +kernel) ⟨Nat.le_of_ble_eq_true rfl, Nat.le_of_ble_eq_true rfl⟩ rfl rfl) ⟨se_blind se_ZN_ok, va_recv hK hP (ci := 1) (q0 := 3) rfl rfl, se_pre se_ZN_ok hP hK hD hZ⟩ rfl rfl hl.1 rfl (lv_room (Nat.le_of_ble_eq_true rfl)) dX5_takeSegment_62 ⟨Nat.zero_le _, Nat.zero_le _⟩) hD hS hA (fun H locs hP hD hS => ?_)
        refine lv_if_ne (tgt := 75) hx hb dX5_takeSegment_65 (by decide) (fun c4 => ?_) (fun c4 => ?_)
        · refine lv_aload_n hx hb dX5_takeSegment_75 rfl (lv_at hl 0 rfl) ?_
          refine va_get (D := D) (ci := 5) (v := .ref (h 7)) (C := RX5) (T := TX5) (N := 12) hx hb hts (se_iw iwX5) hown hK hP 0 rfl rfl 6 (by decide) (hts _ (List.mem_cons_of_mem _ qX5_f49)) (fun _ h9 => h9) rfl dX5_takeSegment_76 ?_
          refine lv_iconst (v := 4) hx hb dX5_takeSegment_79 (by decide) ?_
          refine se_cp (va_runVN (C := RX3) (As := [.int 4]) (rest := []) ⟨hx, hb, hml, hown, hts⟩ (c_S_Segment_has_7 l D k h _ g 4) (se_kVN 1 hts q_code_X3_has (hZ _ nX5_m338 rfl) q_ini_StreamEnd_Segment q_instanceMethod_X3_has q_sel_X3_has (by decide +kernel) ⟨Nat.le_of_ble_eq_true rfl, Nat.le_of_ble_eq_true rfl⟩ rfl rfl) ⟨se_blind se_ZN_ok, va_recv hK hP (ci := 3) (q0 := 7) rfl rfl, se_pre se_ZN_ok hP hK hD hZ⟩ rfl rfl hl.1 rfl (lv_room (Nat.le_of_ble_eq_true rfl)) dX5_takeSegment_80 ⟨Nat.zero_le _, Nat.zero_le _⟩) hD hS hA (fun H locs hP hD hS => ?_)
          refine lv_if_eq (tgt := 93) hx hb dX5_takeSegment_83 (by decide) (fun c5 => ?_) (fun c5 => ?_)
          · refine lv_aload_n hx hb dX5_takeSegment_93 rfl (lv_at hl 0 rfl) ?_
            refine va_get (D := D) (ci := 5) (v := .ref (h 7)) (C := RX5) (T := TX5) (N := 12) hx hb hts (se_iw iwX5) hown hK hP 0 rfl rfl 6 (by decide) (hts _ (List.mem_cons_of_mem _ qX5_f49)) (fun _ h9 => h9) rfl dX5_takeSegment_94 ?_
            refine lv_iconst (v := 1) hx hb dX5_takeSegment_97 (by decide) ?_
            refine se_cp (va_runVN (C := RX3) (As := [.int 1]) (rest := []) ⟨hx, hb, hml, hown, hts⟩ (c_S_Segment_has_7 l D k h _ g 1) (se_kVN 1 hts q_code_X3_has (hZ _ nX5_m338 rfl) q_ini_StreamEnd_Segment q_instanceMethod_X3_has q_sel_X3_has (by decide +kernel) ⟨Nat.le_of_ble_eq_true rfl, Nat.le_of_ble_eq_true rfl⟩ rfl rfl) ⟨se_blind se_ZN_ok, va_recv hK hP (ci := 3) (q0 := 7) rfl rfl, se_pre se_ZN_ok hP hK hD hZ⟩ rfl rfl hl.1 rfl (lv_room (Nat.le_of_ble_eq_true rfl)) dX5_takeSegment_98 ⟨Nat.zero_le _, Nat.zero_le _⟩) hD hS hA (fun H locs hP hD hS => ?_)
            refine lv_if_eq (tgt := 115) hx hb dX5_takeSegment_101 (by decide) (fun c6 => ?_) (fun c6 => ?_)
            · refine lv_aload_n hx hb dX5_takeSegment_115 rfl (lv_at hl 0 rfl) ?_
              refine va_get (D := D) (ci := 5) (v := .ref (h 7)) (C := RX5) (T := TX5) (N := 12) hx hb hts (se_iw iwX5) hown hK hP 0 rfl rfl 6 (by decide) (hts _ (List.mem_cons_of_mem _ qX5_f49)) (fun _ h9 => h9) rfl dX5_takeSegment_116 ?_
              refine lv_bipush (v := 8) hx hb dX5_takeSegment_119 (by decide) ?_
              refine se_cp (va_runVN (C := RX3) (As := [.int 8]) (rest := []) ⟨hx, hb, hml, hown, hts⟩ (c_S_Segment_has_7 l D k h _ g 8) (se_kVN 1 hts q_code_X3_has (hZ _ nX5_m338 rfl) q_ini_StreamEnd_Segment q_instanceMethod_X3_has q_sel_X3_has (by decide +kernel) ⟨Nat.le_of_ble_eq_true rfl, Nat.le_of_ble_eq_true rfl⟩ rfl rfl) ⟨se_blind se_ZN_ok, va_recv hK hP (ci := 3) (q0 := 7) rfl rfl, se_pre se_ZN_ok hP hK hD hZ⟩ rfl rfl hl.1 rfl (lv_room (Nat.le_of_ble_eq_true rfl)) dX5_takeSegment_121 ⟨Nat.zero_le _, Nat.zero_le _⟩) hD hS hA (fun H locs hP hD hS => ?_)
              refine lv_if_eq (tgt := 131) hx hb dX5_takeSegment_124 (by decide) (fun c7 => ?_) (fun c7 => ?_)
              · exact se_rv hx hb hr hlocks hK hP hD hS dX5_takeSegment_131 (by rw [F_S_takeSegment, if_pos c1, if_neg c2, if_neg c3, if_neg c4, if_pos c5, if_pos c6, if_pos c7])
              · refine lv_aload_n hx hb dX5_takeSegment_127 rfl (lv_at hl 0 rfl) ?_
                refine se_cvE (va_runV (C := RX5) (As := []) (rest := []) ⟨hx, hb, hml, hown, hts⟩ (c_S_takeInStream l D k h _ g (by first | exact hI | (simp only [kp_takeThanked, kp_takeWindow, kp_leave]; exact hI))) (se_kV 0 hts q_code_X5_takeInStream qX5_m394 q_ini_StreamEnd q_instanceMethod_X5_takeInStream q_sel_X5_takeInStream (by decide +kernel) ⟨Nat.le_of_ble_eq_true rfl, Nat.le_of_ble_eq_true rfl⟩ rfl rfl) ⟨se_blind se_ZN_ok, va_recv hK hP (ci := 5) (q0 := 0) rfl rfl, se_pre se_ZN_ok hP hK hD hZ⟩ rfl rfl hl.1 rfl (lv_room (Nat.le_of_ble_eq_true rfl)) dX5_takeSegment_128 ⟨Nat.zero_le _, Nat.zero_le _⟩) hD hS hA (fun g1 H locs eg1 hP hD hS => ?_)
                exact se_rv hx hb hr hlocks hK hP hD hS dX5_takeSegment_131 (by subst eg1; rw [F_S_takeSegment, if_pos c1, if_neg c2, if_neg c3, if_neg c4, if_pos c5, if_pos c6, if_neg c7])
            · refine lv_aload_n hx hb dX5_takeSegment_104 rfl (lv_at hl 0 rfl) ?_
              refine va_get (D := D) (ci := 5) (v := .ref (h 6)) (C := RX5) (T := TX5) (N := 12) hx hb hts (se_iw iwX5) hown hK hP 0 rfl rfl 5 (by decide) (hts _ (List.mem_cons_of_mem _ qX5_f42)) (fun _ h9 => h9) rfl dX5_takeSegment_105 ?_
              refine lv_iconst (v := 1) hx hb dX5_takeSegment_108 (by decide) ?_
              refine va_putN (D := D) (ci := 0) (v := .int 1) (ty := .boolean) (C := RX0) (T := TX0) (N := 9) hx hb hts (se_iw iwX0) tyX0 tyX0_ok nmX0 hown hK hP hD hS 6 rfl rfl 8 (by decide) (va_Nw.use rfl (hZ _ nX5_f206 rfl)) (fun _ h9 => h9) rfl (by decide +kernel) rfl rfl (Nat.le_of_ble_eq_true rfl) dX5_takeSegment_109 (fun H locs hP hD hS => ?_)
              replace hP : va_P D se_cl (se_WS k h (se_u g 6 8 1)) H := hP
              replace hD : va_D A (se_WS k h (se_u g 6 8 1)) := hD
              refine lv_goto (tgt := 131) hx hb dX5_takeSegment_112 (by decide) ?_
              exact se_rv hx hb hr hlocks hK hP hD hS dX5_takeSegment_131 (by rw [F_S_takeSegment, if_pos c1, if_neg c2, if_neg c3, if_neg c4, if_pos c5, if_neg c6])
          · refine lv_aload_n hx hb dX5_takeSegment_86 rfl (lv_at hl 0 rfl) ?_
            refine se_cvE (va_runV (C := RX5) (As := []) (rest := []) ⟨hx, hb, hml, hown, hts⟩ (c_S_takeReset l D k h _ g) (se_kV 0 hts q_code_X5_takeReset qX5_m391 q_ini_StreamEnd q_instanceMethod_X5_takeReset q_sel_X5_takeReset (by decide +kernel) ⟨Nat.le_of_ble_eq_true rfl, Nat.le_of_ble_eq_true rfl⟩ rfl rfl) ⟨se_blind se_ZN_ok, va_recv hK hP (ci := 5) (q0 := 0) rfl rfl, se_pre se_ZN_ok hP hK hD hZ⟩ rfl rfl hl.1 rfl (lv_room (Nat.le_of_ble_eq_true rfl)) dX5_takeSegment_87 ⟨Nat.zero_le _, Nat.zero_le _⟩) hD hS hA (fun g2 H locs eg2 hP hD hS => ?_)
            refine lv_goto (tgt := 131) hx hb dX5_takeSegment_90 (by decide) ?_
            exact se_rv hx hb hr hlocks hK hP hD hS dX5_takeSegment_131 (by subst eg2; rw [F_S_takeSegment, if_pos c1, if_neg c2, if_neg c3, if_neg c4, if_neg c5])
        · refine lv_aload_n hx hb dX5_takeSegment_68 rfl (lv_at hl 0 rfl) ?_
          refine se_cvE (va_runV (C := RX5) (As := []) (rest := []) ⟨hx, hb, hml, hown, hts⟩ (c_S_takeMisfit l D k h _ g) (se_kV 0 hts q_code_X5_takeMisfit qX5_m388 q_ini_StreamEnd q_instanceMethod_X5_takeMisfit q_sel_X5_takeMisfit (by decide +kernel) ⟨Nat.le_of_ble_eq_true rfl, Nat.le_of_ble_eq_true rfl⟩ rfl rfl) ⟨se_blind se_ZN_ok, va_recv hK hP (ci := 5) (q0 := 0) rfl rfl, se_pre se_ZN_ok hP hK hD hZ⟩ rfl rfl hl.1 rfl (lv_room (Nat.le_of_ble_eq_true rfl)) dX5_takeSegment_69 ⟨Nat.zero_le _, Nat.zero_le _⟩) hD hS hA (fun g3 H locs eg3 hP hD hS => ?_)
          refine lv_goto (tgt := 131) hx hb dX5_takeSegment_72 (by decide) ?_
          exact se_rv hx hb hr hlocks hK hP hD hS dX5_takeSegment_131 (by subst eg3; rw [F_S_takeSegment, if_pos c1, if_neg c2, if_neg c3, if_pos c4])
      · refine lv_aload_n hx hb dX5_takeSegment_37 rfl (lv_at hl 0 rfl) ?_
        refine se_cvE (va_runV (C := RX5) (As := []) (rest := []) ⟨hx, hb, hml, hown, hts⟩ (c_S_takeWhenAsking l D k h _ g) (se_kV 0 hts q_code_X5_takeWhenAsking qX5_m378 q_ini_StreamEnd q_instanceMethod_X5_takeWhenAsking q_sel_X5_takeWhenAsking (by decide +kernel) ⟨Nat.le_of_ble_eq_true rfl, Nat.le_of_ble_eq_true rfl⟩ rfl rfl) ⟨se_blind se_ZN_ok, va_recv hK hP (ci := 5) (q0 := 0) rfl rfl, se_pre se_ZN_ok hP hK hD hZ⟩ rfl rfl hl.1 rfl (lv_room (Nat.le_of_ble_eq_true rfl)) dX5_takeSegment_38 ⟨Nat.zero_le _, Nat.zero_le _⟩) hD hS hA (fun g4 H locs eg4 hP hD hS => ?_)
        refine lv_goto (tgt := 131) hx hb dX5_takeSegment_41 (by decide) ?_
        exact se_rv hx hb hr hlocks hK hP hD hS dX5_takeSegment_131 (by subst eg4; rw [F_S_takeSegment, if_pos c1, if_neg c2, if_pos c3])
    · refine lv_aload_n hx hb dX5_takeSegment_22 rfl (lv_at hl 0 rfl) ?_
      refine se_cvE (va_runV (C := RX5) (As := []) (rest := []) ⟨hx, hb, hml, hown, hts⟩ (c_S_takeWhenListening l D k h _ g) (se_kV 0 hts q_code_X5_takeWhenListening qX5_m375 q_ini_StreamEnd q_instanceMethod_X5_takeWhenListening q_sel_X5_takeWhenListening (by decide +kernel) ⟨Nat.le_of_ble_eq_true rfl, Nat.le_of_ble_eq_true rfl⟩ rfl rfl) ⟨se_blind se_ZN_ok, va_recv hK hP (ci := 5) (q0 := 0) rfl rfl, se_pre se_ZN_ok hP hK hD hZ⟩ rfl rfl hl.1 rfl (lv_room (Nat.le_of_ble_eq_true rfl)) dX5_takeSegment_23 ⟨Nat.zero_le _, Nat.zero_le _⟩) hD hS hA (fun g5 H locs eg5 hP hD hS => ?_)
      refine lv_goto (tgt := 131) hx hb dX5_takeSegment_26 (by decide) ?_
      exact se_rv hx hb hr hlocks hK hP hD hS dX5_takeSegment_131 (by subst eg5; rw [F_S_takeSegment, if_pos c1, if_pos c2])
  · refine lv_aload_n hx hb dX5_takeSegment_7 rfl (lv_at hl 0 rfl) ?_
    refine se_cvE (va_runV (C := RX5) (As := []) (rest := []) ⟨hx, hb, hml, hown, hts⟩ (c_S_answerWithReset l D k h _ g) (se_kV 0 hts q_code_X5_answerWithReset qX5_m372 q_ini_StreamEnd q_instanceMethod_X5_answerWithReset q_sel_X5_answerWithReset (by decide +kernel) ⟨Nat.le_of_ble_eq_true rfl, Nat.le_of_ble_eq_true rfl⟩ rfl rfl) ⟨se_blind se_ZN_ok, va_recv hK hP (ci := 5) (q0 := 0) rfl rfl, se_pre se_ZN_ok hP hK hD hZ⟩ rfl rfl hl.1 rfl (lv_room (Nat.le_of_ble_eq_true rfl)) dX5_takeSegment_8 ⟨Nat.zero_le _, Nat.zero_le _⟩) hD hS hA (fun g6 H locs eg6 hP hD hS => ?_)
    refine lv_goto (tgt := 131) hx hb dX5_takeSegment_11 (by decide) ?_
    exact se_rv hx hb hr hlocks hK hP hD hS dX5_takeSegment_131 (by subst eg6; rw [F_S_takeSegment, if_neg c1])
set_option maxRecDepth 100000 in
set_option maxHeartbeats 4000000 in
theorem c_S_state (l : Launch) (D : va_G) (k : Nat → ClassId) (h : Nat → Nat) (sz : Nat) (g : se_G)  : Met l yX5_state (se_w_X5_state) ({ frames := 0, cells := 0, slots := 0, locals := 0 }) (va_Pc [.ref (h 0)] (se_Pre D se_cl [(k 2, .byte), (k 4, .int), (k 8, .byte), (k 10, .byte)] (se_WS k h g) se_ZN sz)) (se_Qp D se_cl [(k 2, .byte), (k 4, .int), (k 8, .byte), (k 10, .byte)] (se_WS k h) (F_S_state g) g (va_A (se_WS k h g) sz)) 0 0 (va_A (se_WS k h g) sz) := by
  refine se_met (Qc := se_Qp D se_cl [(k 2, .byte), (k 4, .int), (k 8, .byte), (k 10, .byte)] (se_WS k h) (F_S_state g) g) (cc := cX5_state) (maxL := 1) (ret := (some .int)) (by decide) rfl (Nat.le_of_ble_eq_true rfl) ?_
  intro p e s m below meth c ls A hx hb hr hts hown hlocks hml hA hP hK hD hS hZ hl
  replace hl : lv_has ls 1 [(0, .ref (h 0))] := hl
  have hF : F_S_state g = F_S_state g := rfl
  refine lv_aload_n hx hb dX5_state_0 rfl (lv_at hl 0 rfl) ?_
  refine va_get (D := D) (ci := 5) (v := .int (g 0 9)) (C := RX5) (T := TX5) (N := 12) hx hb hts (se_iw iwX5) hown hK hP 0 rfl rfl 9 (by decide) (hts _ (List.mem_cons_of_mem _ qX5_f60)) (fun _ h9 => h9) rfl dX5_state_1 ?_
  exact se_rp hx hb hr  hlocks hK hP hD hS dX5_state_4 (by rw [F_S_state])
end
