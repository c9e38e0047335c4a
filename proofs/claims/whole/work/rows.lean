section
-- ===== PART A: goes FIRST, ahead of the names: the tables' words, and 'selects' of the private methods out of them =====
/-- a private method of a class that the tables say can be made, by its rows of tables_1 -/
def lw_okq (q : MethodName × Nat) : Prop := (q.1.cls ≠ "java/lang/invoke/MethodHandle" ∧ q.1.cls ≠ "java/lang/invoke/VarHandle") ∧ Cond.instantiable q.1.cls q.2 ∈ tables_1 ∧ Cond.privateMethod q.1 ∈ tables_1 ∧ Cond.instanceMethod q.1 ∈ tables_1
theorem lw_p0 : lw_okq (⟨"BedsideNet$Device", "begin", "(I)V"⟩, 9) := ⟨⟨by decide +kernel, by decide +kernel⟩, List.mem_of_getElem? (i := 114) (by decide +kernel), List.mem_of_getElem? (i := 417) (by decide +kernel), List.mem_of_getElem? (i := 418) (by decide +kernel)⟩
theorem lw_p1 : lw_okq (⟨"BedsideNet", "isOpen", "(I)Z"⟩, 9) := ⟨⟨by decide +kernel, by decide +kernel⟩, List.mem_of_getElem? (i := 22) (by decide +kernel), List.mem_of_getElem? (i := 425) (by decide +kernel), List.mem_of_getElem? (i := 426) (by decide +kernel)⟩
theorem lw_p2 : lw_okq (⟨"BedsideNet$Device", "hasChannel", "(I)Z"⟩, 9) := ⟨⟨by decide +kernel, by decide +kernel⟩, List.mem_of_getElem? (i := 114) (by decide +kernel), List.mem_of_getElem? (i := 429) (by decide +kernel), List.mem_of_getElem? (i := 430) (by decide +kernel)⟩
theorem lw_p3 : lw_okq (⟨"BedsideNet$Alarm", "describe", "(III)V"⟩, 10) := ⟨⟨by decide +kernel, by decide +kernel⟩, List.mem_of_getElem? (i := 180) (by decide +kernel), List.mem_of_getElem? (i := 441) (by decide +kernel), List.mem_of_getElem? (i := 442) (by decide +kernel)⟩
theorem lw_p4 : lw_okq (⟨"BedsideNet$Setting", "describe", "(III)V"⟩, 6) := ⟨⟨by decide +kernel, by decide +kernel⟩, List.mem_of_getElem? (i := 122) (by decide +kernel), List.mem_of_getElem? (i := 452) (by decide +kernel), List.mem_of_getElem? (i := 453) (by decide +kernel)⟩
theorem lw_p5 : lw_okq (⟨"BedsideNet$Range", "set", "(III)V"⟩, 3) := ⟨⟨by decide +kernel, by decide +kernel⟩, List.mem_of_getElem? (i := 128) (by decide +kernel), List.mem_of_getElem? (i := 456) (by decide +kernel), List.mem_of_getElem? (i := 457) (by decide +kernel)⟩
theorem lw_p6 : lw_okq (⟨"BedsideNet", "isSealed", "(I)Z"⟩, 9) := ⟨⟨by decide +kernel, by decide +kernel⟩, List.mem_of_getElem? (i := 22) (by decide +kernel), List.mem_of_getElem? (i := 468) (by decide +kernel), List.mem_of_getElem? (i := 469) (by decide +kernel)⟩
theorem lw_p7 : lw_okq (⟨"BedsideNet$Device", "tie", "(I)V"⟩, 9) := ⟨⟨by decide +kernel, by decide +kernel⟩, List.mem_of_getElem? (i := 114) (by decide +kernel), List.mem_of_getElem? (i := 480) (by decide +kernel), List.mem_of_getElem? (i := 481) (by decide +kernel)⟩
theorem lw_p8 : lw_okq (⟨"BedsideNet$Range", "fits", "(I)Z"⟩, 3) := ⟨⟨by decide +kernel, by decide +kernel⟩, List.mem_of_getElem? (i := 128) (by decide +kernel), List.mem_of_getElem? (i := 488) (by decide +kernel), List.mem_of_getElem? (i := 489) (by decide +kernel)⟩
theorem lw_p9 : lw_okq (⟨"BedsideNet$Channel", "measure", "(II)V"⟩, 9) := ⟨⟨by decide +kernel, by decide +kernel⟩, List.mem_of_getElem? (i := 172) (by decide +kernel), List.mem_of_getElem? (i := 492) (by decide +kernel), List.mem_of_getElem? (i := 493) (by decide +kernel)⟩
theorem lw_p10 : lw_okq (⟨"BedsideNet$Alarm", "watch", "(II)V"⟩, 10) := ⟨⟨by decide +kernel, by decide +kernel⟩, List.mem_of_getElem? (i := 180) (by decide +kernel), List.mem_of_getElem? (i := 496) (by decide +kernel), List.mem_of_getElem? (i := 497) (by decide +kernel)⟩
theorem lw_p11 : lw_okq (⟨"BedsideNet", "sendValue", "(II)V"⟩, 9) := ⟨⟨by decide +kernel, by decide +kernel⟩, List.mem_of_getElem? (i := 22) (by decide +kernel), List.mem_of_getElem? (i := 500) (by decide +kernel), List.mem_of_getElem? (i := 501) (by decide +kernel)⟩
theorem lw_p12 : lw_okq (⟨"BedsideNet$Post", "send", "(IIIIIII)V"⟩, 4) := ⟨⟨by decide +kernel, by decide +kernel⟩, List.mem_of_getElem? (i := 36) (by decide +kernel), List.mem_of_getElem? (i := 504) (by decide +kernel), List.mem_of_getElem? (i := 505) (by decide +kernel)⟩
theorem lw_p13 : lw_okq (⟨"BedsideNet", "settleAlarms", "()V"⟩, 9) := ⟨⟨by decide +kernel, by decide +kernel⟩, List.mem_of_getElem? (i := 22) (by decide +kernel), List.mem_of_getElem? (i := 508) (by decide +kernel), List.mem_of_getElem? (i := 509) (by decide +kernel)⟩
theorem lw_p14 : lw_okq (⟨"BedsideNet$Alarm", "settle", "(I)Z"⟩, 10) := ⟨⟨by decide +kernel, by decide +kernel⟩, List.mem_of_getElem? (i := 180) (by decide +kernel), List.mem_of_getElem? (i := 512) (by decide +kernel), List.mem_of_getElem? (i := 513) (by decide +kernel)⟩
theorem lw_p15 : lw_okq (⟨"BedsideNet", "send", "(IIII)V"⟩, 9) := ⟨⟨by decide +kernel, by decide +kernel⟩, List.mem_of_getElem? (i := 22) (by decide +kernel), List.mem_of_getElem? (i := 519) (by decide +kernel), List.mem_of_getElem? (i := 520) (by decide +kernel)⟩
def lw_privs_1 : List (MethodName × Nat) := [(⟨"BedsideNet$Device", "begin", "(I)V"⟩, 9), (⟨"BedsideNet", "isOpen", "(I)Z"⟩, 9), (⟨"BedsideNet$Device", "hasChannel", "(I)Z"⟩, 9), (⟨"BedsideNet$Alarm", "describe", "(III)V"⟩, 10), (⟨"BedsideNet$Setting", "describe", "(III)V"⟩, 6), (⟨"BedsideNet$Range", "set", "(III)V"⟩, 3), (⟨"BedsideNet", "isSealed", "(I)Z"⟩, 9), (⟨"BedsideNet$Device", "tie", "(I)V"⟩, 9), (⟨"BedsideNet$Range", "fits", "(I)Z"⟩, 3), (⟨"BedsideNet$Channel", "measure", "(II)V"⟩, 9), (⟨"BedsideNet$Alarm", "watch", "(II)V"⟩, 10), (⟨"BedsideNet", "sendValue", "(II)V"⟩, 9), (⟨"BedsideNet$Post", "send", "(IIIIIII)V"⟩, 4), (⟨"BedsideNet", "settleAlarms", "()V"⟩, 9), (⟨"BedsideNet$Alarm", "settle", "(I)Z"⟩, 10), (⟨"BedsideNet", "send", "(IIII)V"⟩, 9)]
theorem lw_r1 : ∀ q ∈ lw_privs_1, lw_okq q := List.forall_mem_cons.mpr ⟨lw_p0, List.forall_mem_cons.mpr ⟨lw_p1, List.forall_mem_cons.mpr ⟨lw_p2, List.forall_mem_cons.mpr ⟨lw_p3, List.forall_mem_cons.mpr ⟨lw_p4, List.forall_mem_cons.mpr ⟨lw_p5, List.forall_mem_cons.mpr ⟨lw_p6, List.forall_mem_cons.mpr ⟨lw_p7, List.forall_mem_cons.mpr ⟨lw_p8, List.forall_mem_cons.mpr ⟨lw_p9, List.forall_mem_cons.mpr ⟨lw_p10, List.forall_mem_cons.mpr ⟨lw_p11, List.forall_mem_cons.mpr ⟨lw_p12, List.forall_mem_cons.mpr ⟨lw_p13, List.forall_mem_cons.mpr ⟨lw_p14, List.forall_mem_cons.mpr ⟨lw_p15, fun _ h => absurd h List.not_mem_nil⟩⟩⟩⟩⟩⟩⟩⟩⟩⟩⟩⟩⟩⟩⟩⟩
theorem lw_p16 : lw_okq (⟨"BedsideNet$Post", "indexOf", "(I)I"⟩, 4) := ⟨⟨by decide +kernel, by decide +kernel⟩, List.mem_of_getElem? (i := 36) (by decide +kernel), List.mem_of_getElem? (i := 527) (by decide +kernel), List.mem_of_getElem? (i := 528) (by decide +kernel)⟩
theorem lw_p17 : lw_okq (⟨"BedsideNet$Message", "copy", "(LBedsideNet$Message;)V"⟩, 8) := ⟨⟨by decide +kernel, by decide +kernel⟩, List.mem_of_getElem? (i := 43) (by decide +kernel), List.mem_of_getElem? (i := 531) (by decide +kernel), List.mem_of_getElem? (i := 532) (by decide +kernel)⟩
theorem lw_p18 : lw_okq (⟨"BedsideNet$Post", "remove", "(I)V"⟩, 4) := ⟨⟨by decide +kernel, by decide +kernel⟩, List.mem_of_getElem? (i := 36) (by decide +kernel), List.mem_of_getElem? (i := 535) (by decide +kernel), List.mem_of_getElem? (i := 536) (by decide +kernel)⟩
theorem lw_p19 : lw_okq (⟨"BedsideNet", "deliver", "()V"⟩, 9) := ⟨⟨by decide +kernel, by decide +kernel⟩, List.mem_of_getElem? (i := 22) (by decide +kernel), List.mem_of_getElem? (i := 539) (by decide +kernel), List.mem_of_getElem? (i := 540) (by decide +kernel)⟩
theorem lw_p20 : lw_okq (⟨"BedsideNet", "takeOrder", "(LBedsideNet$Device;)V"⟩, 9) := ⟨⟨by decide +kernel, by decide +kernel⟩, List.mem_of_getElem? (i := 22) (by decide +kernel), List.mem_of_getElem? (i := 543) (by decide +kernel), List.mem_of_getElem? (i := 544) (by decide +kernel)⟩
theorem lw_p21 : lw_okq (⟨"BedsideNet", "judge", "(LBedsideNet$Order;LBedsideNet$Device;)I"⟩, 9) := ⟨⟨by decide +kernel, by decide +kernel⟩, List.mem_of_getElem? (i := 22) (by decide +kernel), List.mem_of_getElem? (i := 547) (by decide +kernel), List.mem_of_getElem? (i := 548) (by decide +kernel)⟩
theorem lw_p22 : lw_okq (⟨"BedsideNet$Setting", "holderAt", "(I)I"⟩, 6) := ⟨⟨by decide +kernel, by decide +kernel⟩, List.mem_of_getElem? (i := 122) (by decide +kernel), List.mem_of_getElem? (i := 551) (by decide +kernel), List.mem_of_getElem? (i := 552) (by decide +kernel)⟩
theorem lw_p23 : lw_okq (⟨"BedsideNet", "deliverWithinLife", "(LBedsideNet$Device;)V"⟩, 9) := ⟨⟨by decide +kernel, by decide +kernel⟩, List.mem_of_getElem? (i := 22) (by decide +kernel), List.mem_of_getElem? (i := 555) (by decide +kernel), List.mem_of_getElem? (i := 556) (by decide +kernel)⟩
theorem lw_p24 : lw_okq (⟨"BedsideNet$Display", "hear", "(LBedsideNet$Message;I)V"⟩, 8) := ⟨⟨by decide +kernel, by decide +kernel⟩, List.mem_of_getElem? (i := 317) (by decide +kernel), List.mem_of_getElem? (i := 559) (by decide +kernel), List.mem_of_getElem? (i := 560) (by decide +kernel)⟩
theorem lw_p25 : lw_okq (⟨"BedsideNet", "learnAlarm", "(LBedsideNet$Known;)V"⟩, 9) := ⟨⟨by decide +kernel, by decide +kernel⟩, List.mem_of_getElem? (i := 22) (by decide +kernel), List.mem_of_getElem? (i := 563) (by decide +kernel), List.mem_of_getElem? (i := 564) (by decide +kernel)⟩
theorem lw_p26 : lw_okq (⟨"BedsideNet$Known", "learn", "(IZ)V"⟩, 3) := ⟨⟨by decide +kernel, by decide +kernel⟩, List.mem_of_getElem? (i := 221) (by decide +kernel), List.mem_of_getElem? (i := 567) (by decide +kernel), List.mem_of_getElem? (i := 568) (by decide +kernel)⟩
theorem lw_p27 : lw_okq (⟨"BedsideNet", "sendSounds", "(I)V"⟩, 9) := ⟨⟨by decide +kernel, by decide +kernel⟩, List.mem_of_getElem? (i := 22) (by decide +kernel), List.mem_of_getElem? (i := 571) (by decide +kernel), List.mem_of_getElem? (i := 572) (by decide +kernel)⟩
theorem lw_p28 : lw_okq (⟨"BedsideNet$Alarm", "hush", "()V"⟩, 10) := ⟨⟨by decide +kernel, by decide +kernel⟩, List.mem_of_getElem? (i := 180) (by decide +kernel), List.mem_of_getElem? (i := 575) (by decide +kernel), List.mem_of_getElem? (i := 576) (by decide +kernel)⟩
theorem lw_p29 : lw_okq (⟨"BedsideNet$Known", "sounds", "()Z"⟩, 3) := ⟨⟨by decide +kernel, by decide +kernel⟩, List.mem_of_getElem? (i := 221) (by decide +kernel), List.mem_of_getElem? (i := 587) (by decide +kernel), List.mem_of_getElem? (i := 588) (by decide +kernel)⟩
theorem lw_p30 : lw_okq (⟨"BedsideNet", "isSettable", "(I)Z"⟩, 9) := ⟨⟨by decide +kernel, by decide +kernel⟩, List.mem_of_getElem? (i := 22) (by decide +kernel), List.mem_of_getElem? (i := 602) (by decide +kernel), List.mem_of_getElem? (i := 603) (by decide +kernel)⟩
theorem lw_p31 : lw_okq (⟨"BedsideNet$Device", "beginLife", "()V"⟩, 9) := ⟨⟨by decide +kernel, by decide +kernel⟩, List.mem_of_getElem? (i := 114) (by decide +kernel), List.mem_of_getElem? (i := 614) (by decide +kernel), List.mem_of_getElem? (i := 615) (by decide +kernel)⟩
def lw_privs_2 : List (MethodName × Nat) := [(⟨"BedsideNet$Post", "indexOf", "(I)I"⟩, 4), (⟨"BedsideNet$Message", "copy", "(LBedsideNet$Message;)V"⟩, 8), (⟨"BedsideNet$Post", "remove", "(I)V"⟩, 4), (⟨"BedsideNet", "deliver", "()V"⟩, 9), (⟨"BedsideNet", "takeOrder", "(LBedsideNet$Device;)V"⟩, 9), (⟨"BedsideNet", "judge", "(LBedsideNet$Order;LBedsideNet$Device;)I"⟩, 9), (⟨"BedsideNet$Setting", "holderAt", "(I)I"⟩, 6), (⟨"BedsideNet", "deliverWithinLife", "(LBedsideNet$Device;)V"⟩, 9), (⟨"BedsideNet$Display", "hear", "(LBedsideNet$Message;I)V"⟩, 8), (⟨"BedsideNet", "learnAlarm", "(LBedsideNet$Known;)V"⟩, 9), (⟨"BedsideNet$Known", "learn", "(IZ)V"⟩, 3), (⟨"BedsideNet", "sendSounds", "(I)V"⟩, 9), (⟨"BedsideNet$Alarm", "hush", "()V"⟩, 10), (⟨"BedsideNet$Known", "sounds", "()Z"⟩, 3), (⟨"BedsideNet", "isSettable", "(I)Z"⟩, 9), (⟨"BedsideNet$Device", "beginLife", "()V"⟩, 9)]
theorem lw_r2 : ∀ q ∈ lw_privs_2, lw_okq q := List.forall_mem_cons.mpr ⟨lw_p16, List.forall_mem_cons.mpr ⟨lw_p17, List.forall_mem_cons.mpr ⟨lw_p18, List.forall_mem_cons.mpr ⟨lw_p19, List.forall_mem_cons.mpr ⟨lw_p20, List.forall_mem_cons.mpr ⟨lw_p21, List.forall_mem_cons.mpr ⟨lw_p22, List.forall_mem_cons.mpr ⟨lw_p23, List.forall_mem_cons.mpr ⟨lw_p24, List.forall_mem_cons.mpr ⟨lw_p25, List.forall_mem_cons.mpr ⟨lw_p26, List.forall_mem_cons.mpr ⟨lw_p27, List.forall_mem_cons.mpr ⟨lw_p28, List.forall_mem_cons.mpr ⟨lw_p29, List.forall_mem_cons.mpr ⟨lw_p30, List.forall_mem_cons.mpr ⟨lw_p31, fun _ h => absurd h List.not_mem_nil⟩⟩⟩⟩⟩⟩⟩⟩⟩⟩⟩⟩⟩⟩⟩⟩
theorem lw_p32 : lw_okq (⟨"BedsideNet$Channel", "forget", "()V"⟩, 9) := ⟨⟨by decide +kernel, by decide +kernel⟩, List.mem_of_getElem? (i := 172) (by decide +kernel), List.mem_of_getElem? (i := 618) (by decide +kernel), List.mem_of_getElem? (i := 619) (by decide +kernel)⟩
theorem lw_p33 : lw_okq (⟨"BedsideNet$Alarm", "forget", "()V"⟩, 10) := ⟨⟨by decide +kernel, by decide +kernel⟩, List.mem_of_getElem? (i := 180) (by decide +kernel), List.mem_of_getElem? (i := 622) (by decide +kernel), List.mem_of_getElem? (i := 623) (by decide +kernel)⟩
theorem lw_p34 : lw_okq (⟨"BedsideNet", "stationSounds", "()Z"⟩, 9) := ⟨⟨by decide +kernel, by decide +kernel⟩, List.mem_of_getElem? (i := 22) (by decide +kernel), List.mem_of_getElem? (i := 630) (by decide +kernel), List.mem_of_getElem? (i := 631) (by decide +kernel)⟩
theorem lw_p35 : lw_okq (⟨"BedsideNet$Device", "soundsAtStation", "()Z"⟩, 9) := ⟨⟨by decide +kernel, by decide +kernel⟩, List.mem_of_getElem? (i := 114) (by decide +kernel), List.mem_of_getElem? (i := 634) (by decide +kernel), List.mem_of_getElem? (i := 635) (by decide +kernel)⟩
theorem lw_p36 : lw_okq (⟨"java/lang/Throwable", "fillInStackTrace", "(I)Ljava/lang/Throwable;"⟩, 6) := ⟨⟨by decide +kernel, by decide +kernel⟩, List.mem_of_getElem? (i := 690) (by decide +kernel), List.mem_of_getElem? (i := 688) (by decide +kernel), List.mem_of_getElem? (i := 689) (by decide +kernel)⟩
theorem lw_p37 : lw_okq (⟨"BedsideNet$Channel", "begin", "(IIII)V"⟩, 9) := ⟨⟨by decide +kernel, by decide +kernel⟩, List.mem_of_getElem? (i := 172) (by decide +kernel), List.mem_of_getElem? (i := 730) (by decide +kernel), List.mem_of_getElem? (i := 731) (by decide +kernel)⟩
theorem lw_p38 : lw_okq (⟨"BedsideNet", "repeatValues", "()V"⟩, 9) := ⟨⟨by decide +kernel, by decide +kernel⟩, List.mem_of_getElem? (i := 22) (by decide +kernel), List.mem_of_getElem? (i := 743) (by decide +kernel), List.mem_of_getElem? (i := 744) (by decide +kernel)⟩
theorem lw_p39 : lw_okq (⟨"BedsideNet", "repeatSounds", "()V"⟩, 9) := ⟨⟨by decide +kernel, by decide +kernel⟩, List.mem_of_getElem? (i := 22) (by decide +kernel), List.mem_of_getElem? (i := 747) (by decide +kernel), List.mem_of_getElem? (i := 748) (by decide +kernel)⟩
theorem lw_p40 : lw_okq (⟨"BedsideNet", "leastDeviceWith", "(II)I"⟩, 9) := ⟨⟨by decide +kernel, by decide +kernel⟩, List.mem_of_getElem? (i := 22) (by decide +kernel), List.mem_of_getElem? (i := 758) (by decide +kernel), List.mem_of_getElem? (i := 759) (by decide +kernel)⟩
theorem lw_p41 : lw_okq (⟨"BedsideNet$Device", "leastChannelWith", "(I)I"⟩, 9) := ⟨⟨by decide +kernel, by decide +kernel⟩, List.mem_of_getElem? (i := 114) (by decide +kernel), List.mem_of_getElem? (i := 762) (by decide +kernel), List.mem_of_getElem? (i := 763) (by decide +kernel)⟩
theorem lw_p42 : lw_okq (⟨"BedsideNet$Display", "attach", "(IIII)V"⟩, 8) := ⟨⟨by decide +kernel, by decide +kernel⟩, List.mem_of_getElem? (i := 317) (by decide +kernel), List.mem_of_getElem? (i := 766) (by decide +kernel), List.mem_of_getElem? (i := 767) (by decide +kernel)⟩
theorem lw_p43 : lw_okq (⟨"BedsideNet$Order", "write", "(III)V"⟩, 5) := ⟨⟨by decide +kernel, by decide +kernel⟩, List.mem_of_getElem? (i := 353) (by decide +kernel), List.mem_of_getElem? (i := 816) (by decide +kernel), List.mem_of_getElem? (i := 817) (by decide +kernel)⟩
theorem lw_p44 : lw_okq (⟨"BedsideNet", "deviceFact", "(LBedsideNet$Device;I)I"⟩, 9) := ⟨⟨by decide +kernel, by decide +kernel⟩, List.mem_of_getElem? (i := 22) (by decide +kernel), List.mem_of_getElem? (i := 827) (by decide +kernel), List.mem_of_getElem? (i := 828) (by decide +kernel)⟩
theorem lw_p45 : lw_okq (⟨"BedsideNet$Device", "soundsAt", "(I)Z"⟩, 9) := ⟨⟨by decide +kernel, by decide +kernel⟩, List.mem_of_getElem? (i := 114) (by decide +kernel), List.mem_of_getElem? (i := 831) (by decide +kernel), List.mem_of_getElem? (i := 832) (by decide +kernel)⟩
theorem lw_p46 : lw_okq (⟨"BedsideNet$Alarm", "isLoud", "()Z"⟩, 10) := ⟨⟨by decide +kernel, by decide +kernel⟩, List.mem_of_getElem? (i := 180) (by decide +kernel), List.mem_of_getElem? (i := 835) (by decide +kernel), List.mem_of_getElem? (i := 836) (by decide +kernel)⟩
theorem lw_p47 : lw_okq (⟨"BedsideNet", "channelFact", "(LBedsideNet$Channel;I)I"⟩, 9) := ⟨⟨by decide +kernel, by decide +kernel⟩, List.mem_of_getElem? (i := 22) (by decide +kernel), List.mem_of_getElem? (i := 839) (by decide +kernel), List.mem_of_getElem? (i := 840) (by decide +kernel)⟩
def lw_privs_3 : List (MethodName × Nat) := [(⟨"BedsideNet$Channel", "forget", "()V"⟩, 9), (⟨"BedsideNet$Alarm", "forget", "()V"⟩, 10), (⟨"BedsideNet", "stationSounds", "()Z"⟩, 9), (⟨"BedsideNet$Device", "soundsAtStation", "()Z"⟩, 9), (⟨"java/lang/Throwable", "fillInStackTrace", "(I)Ljava/lang/Throwable;"⟩, 6), (⟨"BedsideNet$Channel", "begin", "(IIII)V"⟩, 9), (⟨"BedsideNet", "repeatValues", "()V"⟩, 9), (⟨"BedsideNet", "repeatSounds", "()V"⟩, 9), (⟨"BedsideNet", "leastDeviceWith", "(II)I"⟩, 9), (⟨"BedsideNet$Device", "leastChannelWith", "(I)I"⟩, 9), (⟨"BedsideNet$Display", "attach", "(IIII)V"⟩, 8), (⟨"BedsideNet$Order", "write", "(III)V"⟩, 5), (⟨"BedsideNet", "deviceFact", "(LBedsideNet$Device;I)I"⟩, 9), (⟨"BedsideNet$Device", "soundsAt", "(I)Z"⟩, 9), (⟨"BedsideNet$Alarm", "isLoud", "()Z"⟩, 10), (⟨"BedsideNet", "channelFact", "(LBedsideNet$Channel;I)I"⟩, 9)]
theorem lw_r3 : ∀ q ∈ lw_privs_3, lw_okq q := List.forall_mem_cons.mpr ⟨lw_p32, List.forall_mem_cons.mpr ⟨lw_p33, List.forall_mem_cons.mpr ⟨lw_p34, List.forall_mem_cons.mpr ⟨lw_p35, List.forall_mem_cons.mpr ⟨lw_p36, List.forall_mem_cons.mpr ⟨lw_p37, List.forall_mem_cons.mpr ⟨lw_p38, List.forall_mem_cons.mpr ⟨lw_p39, List.forall_mem_cons.mpr ⟨lw_p40, List.forall_mem_cons.mpr ⟨lw_p41, List.forall_mem_cons.mpr ⟨lw_p42, List.forall_mem_cons.mpr ⟨lw_p43, List.forall_mem_cons.mpr ⟨lw_p44, List.forall_mem_cons.mpr ⟨lw_p45, List.forall_mem_cons.mpr ⟨lw_p46, List.forall_mem_cons.mpr ⟨lw_p47, fun _ h => absurd h List.not_mem_nil⟩⟩⟩⟩⟩⟩⟩⟩⟩⟩⟩⟩⟩⟩⟩⟩
theorem lw_p48 : lw_okq (⟨"BedsideNet$Alarm", "standing", "()I"⟩, 10) := ⟨⟨by decide +kernel, by decide +kernel⟩, List.mem_of_getElem? (i := 180) (by decide +kernel), List.mem_of_getElem? (i := 843) (by decide +kernel), List.mem_of_getElem? (i := 844) (by decide +kernel)⟩
theorem lw_p49 : lw_okq (⟨"BedsideNet$Alarm", "levelAt", "(I)I"⟩, 10) := ⟨⟨by decide +kernel, by decide +kernel⟩, List.mem_of_getElem? (i := 180) (by decide +kernel), List.mem_of_getElem? (i := 847) (by decide +kernel), List.mem_of_getElem? (i := 848) (by decide +kernel)⟩
theorem lw_p50 : lw_okq (⟨"BedsideNet$Known", "standing", "()I"⟩, 3) := ⟨⟨by decide +kernel, by decide +kernel⟩, List.mem_of_getElem? (i := 221) (by decide +kernel), List.mem_of_getElem? (i := 852) (by decide +kernel), List.mem_of_getElem? (i := 853) (by decide +kernel)⟩
theorem lw_p51 : lw_okq (⟨"BedsideNet$Message", "fact", "(I)I"⟩, 8) := ⟨⟨by decide +kernel, by decide +kernel⟩, List.mem_of_getElem? (i := 43) (by decide +kernel), List.mem_of_getElem? (i := 863) (by decide +kernel), List.mem_of_getElem? (i := 864) (by decide +kernel)⟩
theorem lw_p52 : lw_okq (⟨"BedsideNetModel", "forget", "(I)V"⟩, 62) := ⟨⟨by decide +kernel, by decide +kernel⟩, List.mem_of_getElem? (i := 867) (by decide +kernel), List.mem_of_getElem? (i := 873) (by decide +kernel), List.mem_of_getElem? (i := 874) (by decide +kernel)⟩
theorem lw_p53 : lw_okq (⟨"BedsideNetModel", "isAt", "(II)Z"⟩, 62) := ⟨⟨by decide +kernel, by decide +kernel⟩, List.mem_of_getElem? (i := 867) (by decide +kernel), List.mem_of_getElem? (i := 1084) (by decide +kernel), List.mem_of_getElem? (i := 1085) (by decide +kernel)⟩
theorem lw_p54 : lw_okq (⟨"BedsideNetModel", "isChannel", "(II)Z"⟩, 62) := ⟨⟨by decide +kernel, by decide +kernel⟩, List.mem_of_getElem? (i := 867) (by decide +kernel), List.mem_of_getElem? (i := 1100) (by decide +kernel), List.mem_of_getElem? (i := 1101) (by decide +kernel)⟩
theorem lw_p55 : lw_okq (⟨"BedsideNetModel", "untie", "(I)V"⟩, 62) := ⟨⟨by decide +kernel, by decide +kernel⟩, List.mem_of_getElem? (i := 867) (by decide +kernel), List.mem_of_getElem? (i := 1116) (by decide +kernel), List.mem_of_getElem? (i := 1117) (by decide +kernel)⟩
theorem lw_p56 : lw_okq (⟨"BedsideNetModel", "settle", "()V"⟩, 62) := ⟨⟨by decide +kernel, by decide +kernel⟩, List.mem_of_getElem? (i := 867) (by decide +kernel), List.mem_of_getElem? (i := 1120) (by decide +kernel), List.mem_of_getElem? (i := 1121) (by decide +kernel)⟩
theorem lw_p57 : lw_okq (⟨"BedsideNetModel", "isSo", "(I)Z"⟩, 62) := ⟨⟨by decide +kernel, by decide +kernel⟩, List.mem_of_getElem? (i := 867) (by decide +kernel), List.mem_of_getElem? (i := 1124) (by decide +kernel), List.mem_of_getElem? (i := 1125) (by decide +kernel)⟩
theorem lw_p58 : lw_okq (⟨"BedsideNetModel", "isAbove", "(I)Z"⟩, 62) := ⟨⟨by decide +kernel, by decide +kernel⟩, List.mem_of_getElem? (i := 867) (by decide +kernel), List.mem_of_getElem? (i := 1128) (by decide +kernel), List.mem_of_getElem? (i := 1129) (by decide +kernel)⟩
theorem lw_p59 : lw_okq (⟨"BedsideNetModel", "since", "(I)I"⟩, 62) := ⟨⟨by decide +kernel, by decide +kernel⟩, List.mem_of_getElem? (i := 867) (by decide +kernel), List.mem_of_getElem? (i := 1132) (by decide +kernel), List.mem_of_getElem? (i := 1133) (by decide +kernel)⟩
theorem lw_p60 : lw_okq (⟨"BedsideNetModel", "send", "(IIIII)V"⟩, 62) := ⟨⟨by decide +kernel, by decide +kernel⟩, List.mem_of_getElem? (i := 867) (by decide +kernel), List.mem_of_getElem? (i := 1136) (by decide +kernel), List.mem_of_getElem? (i := 1137) (by decide +kernel)⟩
theorem lw_p61 : lw_okq (⟨"BedsideNetModel", "sendValue", "(II)V"⟩, 62) := ⟨⟨by decide +kernel, by decide +kernel⟩, List.mem_of_getElem? (i := 867) (by decide +kernel), List.mem_of_getElem? (i := 1155) (by decide +kernel), List.mem_of_getElem? (i := 1156) (by decide +kernel)⟩
theorem lw_p62 : lw_okq (⟨"BedsideNetModel", "knowsLoud", "(I)Z"⟩, 62) := ⟨⟨by decide +kernel, by decide +kernel⟩, List.mem_of_getElem? (i := 867) (by decide +kernel), List.mem_of_getElem? (i := 1164) (by decide +kernel), List.mem_of_getElem? (i := 1165) (by decide +kernel)⟩
theorem lw_p63 : lw_okq (⟨"BedsideNetModel", "sendSounds", "(I)V"⟩, 62) := ⟨⟨by decide +kernel, by decide +kernel⟩, List.mem_of_getElem? (i := 867) (by decide +kernel), List.mem_of_getElem? (i := 1168) (by decide +kernel), List.mem_of_getElem? (i := 1169) (by decide +kernel)⟩
def lw_privs_4 : List (MethodName × Nat) := [(⟨"BedsideNet$Alarm", "standing", "()I"⟩, 10), (⟨"BedsideNet$Alarm", "levelAt", "(I)I"⟩, 10), (⟨"BedsideNet$Known", "standing", "()I"⟩, 3), (⟨"BedsideNet$Message", "fact", "(I)I"⟩, 8), (⟨"BedsideNetModel", "forget", "(I)V"⟩, 62), (⟨"BedsideNetModel", "isAt", "(II)Z"⟩, 62), (⟨"BedsideNetModel", "isChannel", "(II)Z"⟩, 62), (⟨"BedsideNetModel", "untie", "(I)V"⟩, 62), (⟨"BedsideNetModel", "settle", "()V"⟩, 62), (⟨"BedsideNetModel", "isSo", "(I)Z"⟩, 62), (⟨"BedsideNetModel", "isAbove", "(I)Z"⟩, 62), (⟨"BedsideNetModel", "since", "(I)I"⟩, 62), (⟨"BedsideNetModel", "send", "(IIIII)V"⟩, 62), (⟨"BedsideNetModel", "sendValue", "(II)V"⟩, 62), (⟨"BedsideNetModel", "knowsLoud", "(I)Z"⟩, 62), (⟨"BedsideNetModel", "sendSounds", "(I)V"⟩, 62)]
theorem lw_r4 : ∀ q ∈ lw_privs_4, lw_okq q := List.forall_mem_cons.mpr ⟨lw_p48, List.forall_mem_cons.mpr ⟨lw_p49, List.forall_mem_cons.mpr ⟨lw_p50, List.forall_mem_cons.mpr ⟨lw_p51, List.forall_mem_cons.mpr ⟨lw_p52, List.forall_mem_cons.mpr ⟨lw_p53, List.forall_mem_cons.mpr ⟨lw_p54, List.forall_mem_cons.mpr ⟨lw_p55, List.forall_mem_cons.mpr ⟨lw_p56, List.forall_mem_cons.mpr ⟨lw_p57, List.forall_mem_cons.mpr ⟨lw_p58, List.forall_mem_cons.mpr ⟨lw_p59, List.forall_mem_cons.mpr ⟨lw_p60, List.forall_mem_cons.mpr ⟨lw_p61, List.forall_mem_cons.mpr ⟨lw_p62, List.forall_mem_cons.mpr ⟨lw_p63, fun _ h => absurd h List.not_mem_nil⟩⟩⟩⟩⟩⟩⟩⟩⟩⟩⟩⟩⟩⟩⟩⟩
theorem lw_p64 : lw_okq (⟨"BedsideNetModel", "find", "(I)I"⟩, 62) := ⟨⟨by decide +kernel, by decide +kernel⟩, List.mem_of_getElem? (i := 867) (by decide +kernel), List.mem_of_getElem? (i := 1176) (by decide +kernel), List.mem_of_getElem? (i := 1177) (by decide +kernel)⟩
theorem lw_p65 : lw_okq (⟨"BedsideNetModel", "take", "(I)V"⟩, 62) := ⟨⟨by decide +kernel, by decide +kernel⟩, List.mem_of_getElem? (i := 867) (by decide +kernel), List.mem_of_getElem? (i := 1180) (by decide +kernel), List.mem_of_getElem? (i := 1181) (by decide +kernel)⟩
theorem lw_p66 : lw_okq (⟨"BedsideNetModel", "shows", "(IIIIII)V"⟩, 62) := ⟨⟨by decide +kernel, by decide +kernel⟩, List.mem_of_getElem? (i := 867) (by decide +kernel), List.mem_of_getElem? (i := 1184) (by decide +kernel), List.mem_of_getElem? (i := 1185) (by decide +kernel)⟩
theorem lw_p67 : lw_okq (⟨"BedsideNetModel", "knows", "(IIII)V"⟩, 62) := ⟨⟨by decide +kernel, by decide +kernel⟩, List.mem_of_getElem? (i := 867) (by decide +kernel), List.mem_of_getElem? (i := 1188) (by decide +kernel), List.mem_of_getElem? (i := 1189) (by decide +kernel)⟩
theorem lw_p68 : lw_okq (⟨"BedsideNetModel", "orders", "(III)V"⟩, 62) := ⟨⟨by decide +kernel, by decide +kernel⟩, List.mem_of_getElem? (i := 867) (by decide +kernel), List.mem_of_getElem? (i := 1192) (by decide +kernel), List.mem_of_getElem? (i := 1193) (by decide +kernel)⟩
theorem lw_p69 : lw_okq (⟨"BedsideNetModel", "judged", "(III)I"⟩, 62) := ⟨⟨by decide +kernel, by decide +kernel⟩, List.mem_of_getElem? (i := 867) (by decide +kernel), List.mem_of_getElem? (i := 1196) (by decide +kernel), List.mem_of_getElem? (i := 1197) (by decide +kernel)⟩
theorem lw_p70 : lw_okq (⟨"BedsideNetModel", "isLeased", "(I)Z"⟩, 62) := ⟨⟨by decide +kernel, by decide +kernel⟩, List.mem_of_getElem? (i := 867) (by decide +kernel), List.mem_of_getElem? (i := 1227) (by decide +kernel), List.mem_of_getElem? (i := 1228) (by decide +kernel)⟩
theorem lw_p71 : lw_okq (⟨"BedsideNetModel", "isLoud", "(I)Z"⟩, 62) := ⟨⟨by decide +kernel, by decide +kernel⟩, List.mem_of_getElem? (i := 867) (by decide +kernel), List.mem_of_getElem? (i := 1247) (by decide +kernel), List.mem_of_getElem? (i := 1248) (by decide +kernel)⟩
theorem lw_p72 : lw_okq (⟨"BedsideNetModel", "lookChannel", "(II)I"⟩, 62) := ⟨⟨by decide +kernel, by decide +kernel⟩, List.mem_of_getElem? (i := 867) (by decide +kernel), List.mem_of_getElem? (i := 1251) (by decide +kernel), List.mem_of_getElem? (i := 1252) (by decide +kernel)⟩
theorem lw_p73 : lw_okq (⟨"BedsideNetModel", "levelOf", "(I)I"⟩, 62) := ⟨⟨by decide +kernel, by decide +kernel⟩, List.mem_of_getElem? (i := 867) (by decide +kernel), List.mem_of_getElem? (i := 1255) (by decide +kernel), List.mem_of_getElem? (i := 1256) (by decide +kernel)⟩
def lw_privs_5 : List (MethodName × Nat) := [(⟨"BedsideNetModel", "find", "(I)I"⟩, 62), (⟨"BedsideNetModel", "take", "(I)V"⟩, 62), (⟨"BedsideNetModel", "shows", "(IIIIII)V"⟩, 62), (⟨"BedsideNetModel", "knows", "(IIII)V"⟩, 62), (⟨"BedsideNetModel", "orders", "(III)V"⟩, 62), (⟨"BedsideNetModel", "judged", "(III)I"⟩, 62), (⟨"BedsideNetModel", "isLeased", "(I)Z"⟩, 62), (⟨"BedsideNetModel", "isLoud", "(I)Z"⟩, 62), (⟨"BedsideNetModel", "lookChannel", "(II)I"⟩, 62), (⟨"BedsideNetModel", "levelOf", "(I)I"⟩, 62)]
theorem lw_r5 : ∀ q ∈ lw_privs_5, lw_okq q := List.forall_mem_cons.mpr ⟨lw_p64, List.forall_mem_cons.mpr ⟨lw_p65, List.forall_mem_cons.mpr ⟨lw_p66, List.forall_mem_cons.mpr ⟨lw_p67, List.forall_mem_cons.mpr ⟨lw_p68, List.forall_mem_cons.mpr ⟨lw_p69, List.forall_mem_cons.mpr ⟨lw_p70, List.forall_mem_cons.mpr ⟨lw_p71, List.forall_mem_cons.mpr ⟨lw_p72, List.forall_mem_cons.mpr ⟨lw_p73, fun _ h => absurd h List.not_mem_nil⟩⟩⟩⟩⟩⟩⟩⟩⟩⟩
def lw_privs : List (MethodName × Nat) := lw_privs_1 ++ (lw_privs_2 ++ (lw_privs_3 ++ (lw_privs_4 ++ (lw_privs_5))))
def lw_tbl : List Cond := k2_sels lw_privs ++ tables_1
theorem lw_privs_ok : ∀ q ∈ lw_privs, lw_okq q := by
  show ∀ q ∈ lw_privs_1 ++ (lw_privs_2 ++ (lw_privs_3 ++ (lw_privs_4 ++ (lw_privs_5)))), lw_okq q
  exact List.forall_mem_append.mpr ⟨lw_r1, List.forall_mem_append.mpr ⟨lw_r2, List.forall_mem_append.mpr ⟨lw_r3, List.forall_mem_append.mpr ⟨lw_r4, lw_r5⟩⟩⟩⟩
end
section
def R_AL : String := "BedsideNet$Alarm"
def F_AL : u_T := fun k => match k with
  | 0 => ("BedsideNet$Alarm", "present", "Z", false)
  | 1 => ("BedsideNet$Alarm", "priority", "I", false)
  | 2 => ("BedsideNet$Alarm", "limit", "I", false)
  | 3 => ("BedsideNet$Alarm", "delay", "I", false)
  | 4 => ("BedsideNet$Alarm", "above", "Z", false)
  | 5 => ("BedsideNet$Alarm", "aboveSince", "I", false)
  | 6 => ("BedsideNet$Alarm", "inhibitedUntil", "I", false)
  | 7 => ("BedsideNet$Alarm", "on", "Z", false)
  | 8 => ("BedsideNet$Alarm", "acknowledged", "Z", false)
  | _ => ("BedsideNet$Alarm", "beganAt", "I", false)
def t_AL : Nat → FieldType := fun k => match k with
  | 0 => .boolean
  | 1 => .int
  | 2 => .int
  | 3 => .int
  | 4 => .boolean
  | 5 => .int
  | 6 => .int
  | 7 => .boolean
  | 8 => .boolean
  | _ => .int
theorem n_AL : ∀ a, a < 10 → ∀ b, b < 10 → a ≠ b → (F_AL a).2.1 ≠ (F_AL b).2.1 := by decide +kernel
theorem ft_AL : ∀ k, k < 10 → parseFieldDescriptor (F_AL k).2.2.1 = some (t_AL k) := by decide +kernel
def R_CH : String := "BedsideNet$Channel"
def F_CH : u_T := fun k => match k with
  | 0 => ("BedsideNet$Channel", "range", "LBedsideNet$Range;", true)
  | 1 => ("BedsideNet$Channel", "alarm", "LBedsideNet$Alarm;", true)
  | 2 => ("BedsideNet$Channel", "known", "LBedsideNet$Known;", true)
  | 3 => ("BedsideNet$Channel", "unit", "I", false)
  | 4 => ("BedsideNet$Channel", "hasValue", "Z", false)
  | 5 => ("BedsideNet$Channel", "value", "I", false)
  | 6 => ("BedsideNet$Channel", "measuredAt", "I", false)
  | 7 => ("BedsideNet$Channel", "measuredInTie", "Z", false)
  | _ => ("BedsideNet$Channel", "valueSentAt", "I", false)
def t_CH : Nat → FieldType := fun k => match k with
  | 0 => .object "BedsideNet$Range"
  | 1 => .object "BedsideNet$Alarm"
  | 2 => .object "BedsideNet$Known"
  | 3 => .int
  | 4 => .boolean
  | 5 => .int
  | 6 => .int
  | 7 => .boolean
  | _ => .int
theorem n_CH : ∀ a, a < 9 → ∀ b, b < 9 → a ≠ b → (F_CH a).2.1 ≠ (F_CH b).2.1 := by decide +kernel
theorem ft_CH : ∀ k, k < 9 → parseFieldDescriptor (F_CH k).2.2.1 = some (t_CH k) := by decide +kernel
def R_DE : String := "BedsideNet$Device"
def F_DE : u_T := fun k => match k with
  | 0 => ("BedsideNet$Device", "channels", "[LBedsideNet$Channel;", true)
  | 1 => ("BedsideNet$Device", "setting", "LBedsideNet$Setting;", true)
  | 2 => ("BedsideNet$Device", "state", "I", false)
  | 3 => ("BedsideNet$Device", "bed", "I", false)
  | 4 => ("BedsideNet$Device", "life", "I", false)
  | 5 => ("BedsideNet$Device", "channelCount", "I", false)
  | 6 => ("BedsideNet$Device", "tiedTo", "I", false)
  | 7 => ("BedsideNet$Device", "soundsCameAt", "I", false)
  | _ => ("BedsideNet$Device", "soundsSentAt", "I", false)
def t_DE : Nat → FieldType := fun k => match k with
  | 0 => .array (.object "BedsideNet$Channel")
  | 1 => .object "BedsideNet$Setting"
  | 2 => .int
  | 3 => .int
  | 4 => .int
  | 5 => .int
  | 6 => .int
  | 7 => .int
  | _ => .int
theorem n_DE : ∀ a, a < 9 → ∀ b, b < 9 → a ≠ b → (F_DE a).2.1 ≠ (F_DE b).2.1 := by decide +kernel
theorem ft_DE : ∀ k, k < 9 → parseFieldDescriptor (F_DE k).2.2.1 = some (t_DE k) := by decide +kernel
def R_DI : String := "BedsideNet$Display"
def F_DI : u_T := fun k => match k with
  | 0 => ("BedsideNet$Display", "device", "I", false)
  | 1 => ("BedsideNet$Display", "channel", "I", false)
  | 2 => ("BedsideNet$Display", "life", "I", false)
  | 3 => ("BedsideNet$Display", "patient", "I", false)
  | 4 => ("BedsideNet$Display", "number", "I", false)
  | 5 => ("BedsideNet$Display", "value", "I", false)
  | 6 => ("BedsideNet$Display", "measuredAt", "I", false)
  | _ => ("BedsideNet$Display", "heardAt", "I", false)
def t_DI : Nat → FieldType := fun k => match k with
  | 0 => .int
  | 1 => .int
  | 2 => .int
  | 3 => .int
  | 4 => .int
  | 5 => .int
  | 6 => .int
  | _ => .int
theorem n_DI : ∀ a, a < 8 → ∀ b, b < 8 → a ≠ b → (F_DI a).2.1 ≠ (F_DI b).2.1 := by decide +kernel
theorem ft_DI : ∀ k, k < 8 → parseFieldDescriptor (F_DI k).2.2.1 = some (t_DI k) := by decide +kernel
def R_KN : String := "BedsideNet$Known"
def F_KN : u_T := fun k => match k with
  | 0 => ("BedsideNet$Known", "number", "I", false)
  | 1 => ("BedsideNet$Known", "on", "Z", false)
  | _ => ("BedsideNet$Known", "acknowledged", "Z", false)
def t_KN : Nat → FieldType := fun k => match k with
  | 0 => .int
  | 1 => .boolean
  | _ => .boolean
theorem n_KN : ∀ a, a < 3 → ∀ b, b < 3 → a ≠ b → (F_KN a).2.1 ≠ (F_KN b).2.1 := by decide +kernel
theorem ft_KN : ∀ k, k < 3 → parseFieldDescriptor (F_KN k).2.2.1 = some (t_KN k) := by decide +kernel
def R_ME : String := "BedsideNet$Message"
def F_ME : u_T := fun k => match k with
  | 0 => ("BedsideNet$Message", "number", "I", false)
  | 1 => ("BedsideNet$Message", "kind", "I", false)
  | 2 => ("BedsideNet$Message", "device", "I", false)
  | 3 => ("BedsideNet$Message", "part", "I", false)
  | 4 => ("BedsideNet$Message", "life", "I", false)
  | 5 => ("BedsideNet$Message", "value", "I", false)
  | 6 => ("BedsideNet$Message", "measuredAt", "I", false)
  | _ => ("BedsideNet$Message", "patient", "I", false)
def t_ME : Nat → FieldType := fun k => match k with
  | 0 => .int
  | 1 => .int
  | 2 => .int
  | 3 => .int
  | 4 => .int
  | 5 => .int
  | 6 => .int
  | _ => .int
theorem n_ME : ∀ a, a < 8 → ∀ b, b < 8 → a ≠ b → (F_ME a).2.1 ≠ (F_ME b).2.1 := by decide +kernel
theorem ft_ME : ∀ k, k < 8 → parseFieldDescriptor (F_ME k).2.2.1 = some (t_ME k) := by decide +kernel
def R_OR : String := "BedsideNet$Order"
def F_OR : u_T := fun k => match k with
  | 0 => ("BedsideNet$Order", "controller", "I", false)
  | 1 => ("BedsideNet$Order", "value", "I", false)
  | 2 => ("BedsideNet$Order", "expected", "I", false)
  | 3 => ("BedsideNet$Order", "result", "I", false)
  | _ => ("BedsideNet$Order", "known", "I", false)
def t_OR : Nat → FieldType := fun k => match k with
  | 0 => .int
  | 1 => .int
  | 2 => .int
  | 3 => .int
  | _ => .int
theorem n_OR : ∀ a, a < 5 → ∀ b, b < 5 → a ≠ b → (F_OR a).2.1 ≠ (F_OR b).2.1 := by decide +kernel
theorem ft_OR : ∀ k, k < 5 → parseFieldDescriptor (F_OR k).2.2.1 = some (t_OR k) := by decide +kernel
def R_PO : String := "BedsideNet$Post"
def F_PO : u_T := fun k => match k with
  | 0 => ("BedsideNet$Post", "slots", "[LBedsideNet$Message;", true)
  | 1 => ("BedsideNet$Post", "pending", "I", false)
  | 2 => ("BedsideNet$Post", "sent", "I", false)
  | _ => ("BedsideNet$Post", "lost", "I", false)
def t_PO : Nat → FieldType := fun k => match k with
  | 0 => .array (.object "BedsideNet$Message")
  | 1 => .int
  | 2 => .int
  | _ => .int
theorem n_PO : ∀ a, a < 4 → ∀ b, b < 4 → a ≠ b → (F_PO a).2.1 ≠ (F_PO b).2.1 := by decide +kernel
theorem ft_PO : ∀ k, k < 4 → parseFieldDescriptor (F_PO k).2.2.1 = some (t_PO k) := by decide +kernel
def R_RA : String := "BedsideNet$Range"
def F_RA : u_T := fun k => match k with
  | 0 => ("BedsideNet$Range", "low", "I", false)
  | 1 => ("BedsideNet$Range", "high", "I", false)
  | _ => ("BedsideNet$Range", "step", "I", false)
def t_RA : Nat → FieldType := fun k => match k with
  | 0 => .int
  | 1 => .int
  | _ => .int
theorem n_RA : ∀ a, a < 3 → ∀ b, b < 3 → a ≠ b → (F_RA a).2.1 ≠ (F_RA b).2.1 := by decide +kernel
theorem ft_RA : ∀ k, k < 3 → parseFieldDescriptor (F_RA k).2.2.1 = some (t_RA k) := by decide +kernel
def R_SE : String := "BedsideNet$Setting"
def F_SE : u_T := fun k => match k with
  | 0 => ("BedsideNet$Setting", "range", "LBedsideNet$Range;", true)
  | 1 => ("BedsideNet$Setting", "present", "Z", false)
  | 2 => ("BedsideNet$Setting", "value", "I", false)
  | 3 => ("BedsideNet$Setting", "remote", "Z", false)
  | 4 => ("BedsideNet$Setting", "controller", "I", false)
  | _ => ("BedsideNet$Setting", "leasedAt", "I", false)
def t_SE : Nat → FieldType := fun k => match k with
  | 0 => .object "BedsideNet$Range"
  | 1 => .boolean
  | 2 => .int
  | 3 => .boolean
  | 4 => .int
  | _ => .int
theorem n_SE : ∀ a, a < 6 → ∀ b, b < 6 → a ≠ b → (F_SE a).2.1 ≠ (F_SE b).2.1 := by decide +kernel
theorem ft_SE : ∀ k, k < 6 → parseFieldDescriptor (F_SE k).2.2.1 = some (t_SE k) := by decide +kernel
def R_BN : String := "BedsideNet"
def F_BN : u_T := fun k => match k with
  | 0 => ("BedsideNet", "devices", "[LBedsideNet$Device;", true)
  | 1 => ("BedsideNet", "patients", "[I", true)
  | 2 => ("BedsideNet", "displays", "[LBedsideNet$Display;", true)
  | 3 => ("BedsideNet", "orders", "[LBedsideNet$Order;", true)
  | 4 => ("BedsideNet", "post", "LBedsideNet$Post;", true)
  | 5 => ("BedsideNet", "inHand", "LBedsideNet$Message;", true)
  | 6 => ("BedsideNet", "displayCount", "I", false)
  | 7 => ("BedsideNet", "orderCount", "I", false)
  | _ => ("BedsideNet", "time", "I", false)
def t_BN : Nat → FieldType := fun k => match k with
  | 0 => .array (.object "BedsideNet$Device")
  | 1 => .array .int
  | 2 => .array (.object "BedsideNet$Display")
  | 3 => .array (.object "BedsideNet$Order")
  | 4 => .object "BedsideNet$Post"
  | 5 => .object "BedsideNet$Message"
  | 6 => .int
  | 7 => .int
  | _ => .int
theorem n_BN : ∀ a, a < 9 → ∀ b, b < 9 → a ≠ b → (F_BN a).2.1 ≠ (F_BN b).2.1 := by decide +kernel
theorem ft_BN : ∀ k, k < 9 → parseFieldDescriptor (F_BN k).2.2.1 = some (t_BN k) := by decide +kernel
def R_MO : String := "BedsideNetModel"
def F_MO : u_T := fun k => match k with
  | 0 => ("BedsideNetModel", "thrown", "I", false)
  | 1 => ("BedsideNetModel", "now", "I", false)
  | 2 => ("BedsideNetModel", "sent", "I", false)
  | 3 => ("BedsideNetModel", "lost", "I", false)
  | 4 => ("BedsideNetModel", "patients", "[I", true)
  | 5 => ("BedsideNetModel", "stage", "[I", true)
  | 6 => ("BedsideNetModel", "bed", "[I", true)
  | 7 => ("BedsideNetModel", "life", "[I", true)
  | 8 => ("BedsideNetModel", "channels", "[I", true)
  | 9 => ("BedsideNetModel", "tied", "[I", true)
  | 10 => ("BedsideNetModel", "remote", "[Z", true)
  | 11 => ("BedsideNetModel", "hasSet", "[Z", true)
  | 12 => ("BedsideNetModel", "setLow", "[I", true)
  | 13 => ("BedsideNetModel", "setHigh", "[I", true)
  | 14 => ("BedsideNetModel", "setStep", "[I", true)
  | 15 => ("BedsideNetModel", "setValue", "[I", true)
  | 16 => ("BedsideNetModel", "leaseOf", "[I", true)
  | 17 => ("BedsideNetModel", "leaseAt", "[I", true)
  | 18 => ("BedsideNetModel", "heardSounds", "[I", true)
  | 19 => ("BedsideNetModel", "unit", "[I", true)
  | 20 => ("BedsideNetModel", "low", "[I", true)
  | 21 => ("BedsideNetModel", "high", "[I", true)
  | 22 => ("BedsideNetModel", "step", "[I", true)
  | 23 => ("BedsideNetModel", "priority", "[I", true)
  | 24 => ("BedsideNetModel", "limit", "[I", true)
  | 25 => ("BedsideNetModel", "delay", "[I", true)
  | 26 => ("BedsideNetModel", "hasValue", "[Z", true)
  | 27 => ("BedsideNetModel", "ofTie", "[Z", true)
  | 28 => ("BedsideNetModel", "value", "[I", true)
  | 29 => ("BedsideNetModel", "measured", "[I", true)
  | 30 => ("BedsideNetModel", "valueSent", "[I", true)
  | 31 => ("BedsideNetModel", "above", "[I", true)
  | 32 => ("BedsideNetModel", "quietTill", "[I", true)
  | 33 => ("BedsideNetModel", "on", "[Z", true)
  | 34 => ("BedsideNetModel", "acknowledged", "[Z", true)
  | 35 => ("BedsideNetModel", "began", "[I", true)
  | 36 => ("BedsideNetModel", "known", "[I", true)
  | 37 => ("BedsideNetModel", "knownBy", "[I", true)
  | 38 => ("BedsideNetModel", "toldSounds", "[I", true)
  | 39 => ("BedsideNetModel", "pending", "I", false)
  | 40 => ("BedsideNetModel", "number", "[I", true)
  | 41 => ("BedsideNetModel", "kind", "[I", true)
  | 42 => ("BedsideNetModel", "of", "[I", true)
  | 43 => ("BedsideNetModel", "which", "[I", true)
  | 44 => ("BedsideNetModel", "sentLife", "[I", true)
  | 45 => ("BedsideNetModel", "content", "[I", true)
  | 46 => ("BedsideNetModel", "when", "[I", true)
  | 47 => ("BedsideNetModel", "whose", "[I", true)
  | 48 => ("BedsideNetModel", "handles", "I", false)
  | 49 => ("BedsideNetModel", "handleChannel", "[I", true)
  | 50 => ("BedsideNetModel", "handleLife", "[I", true)
  | 51 => ("BedsideNetModel", "handlePatient", "[I", true)
  | 52 => ("BedsideNetModel", "handleBy", "[I", true)
  | 53 => ("BedsideNetModel", "handleValue", "[I", true)
  | 54 => ("BedsideNetModel", "handleMeasured", "[I", true)
  | 55 => ("BedsideNetModel", "handleHeard", "[I", true)
  | 56 => ("BedsideNetModel", "orders", "I", false)
  | 57 => ("BedsideNetModel", "orderController", "[I", true)
  | 58 => ("BedsideNetModel", "orderValue", "[I", true)
  | 59 => ("BedsideNetModel", "orderExpected", "[I", true)
  | 60 => ("BedsideNetModel", "orderJudged", "[I", true)
  | _ => ("BedsideNetModel", "orderKnown", "[I", true)
def t_MO : Nat → FieldType := fun k => match k with
  | 0 => .int
  | 1 => .int
  | 2 => .int
  | 3 => .int
  | 4 => .array .int
  | 5 => .array .int
  | 6 => .array .int
  | 7 => .array .int
  | 8 => .array .int
  | 9 => .array .int
  | 10 => .array .boolean
  | 11 => .array .boolean
  | 12 => .array .int
  | 13 => .array .int
  | 14 => .array .int
  | 15 => .array .int
  | 16 => .array .int
  | 17 => .array .int
  | 18 => .array .int
  | 19 => .array .int
  | 20 => .array .int
  | 21 => .array .int
  | 22 => .array .int
  | 23 => .array .int
  | 24 => .array .int
  | 25 => .array .int
  | 26 => .array .boolean
  | 27 => .array .boolean
  | 28 => .array .int
  | 29 => .array .int
  | 30 => .array .int
  | 31 => .array .int
  | 32 => .array .int
  | 33 => .array .boolean
  | 34 => .array .boolean
  | 35 => .array .int
  | 36 => .array .int
  | 37 => .array .int
  | 38 => .array .int
  | 39 => .int
  | 40 => .array .int
  | 41 => .array .int
  | 42 => .array .int
  | 43 => .array .int
  | 44 => .array .int
  | 45 => .array .int
  | 46 => .array .int
  | 47 => .array .int
  | 48 => .int
  | 49 => .array .int
  | 50 => .array .int
  | 51 => .array .int
  | 52 => .array .int
  | 53 => .array .int
  | 54 => .array .int
  | 55 => .array .int
  | 56 => .int
  | 57 => .array .int
  | 58 => .array .int
  | 59 => .array .int
  | 60 => .array .int
  | _ => .array .int
theorem n_MO : ∀ a, a < 62 → ∀ b, b < 62 → a ≠ b → (F_MO a).2.1 ≠ (F_MO b).2.1 := by decide +kernel
theorem ft_MO : ∀ k, k < 62 → parseFieldDescriptor (F_MO k).2.2.1 = some (t_MO k) := by decide +kernel
def R_LA : String := "BedsideNetLaw"
abbrev xCl : List vw_C := [(R_AL, F_AL, 10), (R_CH, F_CH, 9), (R_DE, F_DE, 9), (R_DI, F_DI, 8), (R_KN, F_KN, 3), (R_ME, F_ME, 8), (R_OR, F_OR, 5), (R_PO, F_PO, 4), (R_RA, F_RA, 3), (R_SE, F_SE, 6), (R_BN, F_BN, 9), (R_MO, F_MO, 62)]
abbrev b_BN_init : ByteArray := prog_1_method_1_code
def y_BN_init : MethodName := ⟨R_BN, "<init>", "()V"⟩
abbrev b_BN_device : ByteArray := prog_1_method_2_code
def y_BN_device : MethodName := ⟨R_BN, "device", "(II)Z"⟩
abbrev b_BN_channel : ByteArray := prog_1_method_3_code
def y_BN_channel : MethodName := ⟨R_BN, "channel", "(IIIII)I"⟩
abbrev b_BN_alarm : ByteArray := prog_1_method_4_code
def y_BN_alarm : MethodName := ⟨R_BN, "alarm", "(IIIII)Z"⟩
abbrev b_BN_setPoint : ByteArray := prog_1_method_5_code
def y_BN_setPoint : MethodName := ⟨R_BN, "setPoint", "(IIII)Z"⟩
abbrev b_BN_seal : ByteArray := prog_1_method_6_code
def y_BN_seal : MethodName := ⟨R_BN, "seal", "(I)Z"⟩
abbrev b_BN_move : ByteArray := prog_1_method_7_code
def y_BN_move : MethodName := ⟨R_BN, "move", "(II)Z"⟩
abbrev b_BN_patient : ByteArray := prog_1_method_8_code
def y_BN_patient : MethodName := ⟨R_BN, "patient", "(II)Z"⟩
abbrev b_BN_confirm : ByteArray := prog_1_method_9_code
def y_BN_confirm : MethodName := ⟨R_BN, "confirm", "(I)Z"⟩
abbrev b_BN_sample : ByteArray := prog_1_method_10_code
def y_BN_sample : MethodName := ⟨R_BN, "sample", "(III)Z"⟩
abbrev b_BN_tick : ByteArray := prog_1_method_11_code
def y_BN_tick : MethodName := ⟨R_BN, "tick", "(I)I"⟩
abbrev b_BN_repeatValues : ByteArray := prog_1_method_12_code
def y_BN_repeatValues : MethodName := ⟨R_BN, "repeatValues", "()V"⟩
abbrev b_BN_settleAlarms : ByteArray := prog_1_method_13_code
def y_BN_settleAlarms : MethodName := ⟨R_BN, "settleAlarms", "()V"⟩
abbrev b_BN_repeatSounds : ByteArray := prog_1_method_14_code
def y_BN_repeatSounds : MethodName := ⟨R_BN, "repeatSounds", "()V"⟩
abbrev b_BN_carry : ByteArray := prog_1_method_15_code
def y_BN_carry : MethodName := ⟨R_BN, "carry", "(IZ)Z"⟩
abbrev b_BN_drop : ByteArray := prog_1_method_16_code
def y_BN_drop : MethodName := ⟨R_BN, "drop", "(I)Z"⟩
abbrev b_BN_message : ByteArray := prog_1_method_17_code
def y_BN_message : MethodName := ⟨R_BN, "message", "(II)I"⟩
abbrev b_BN_send : ByteArray := prog_1_method_18_code
def y_BN_send : MethodName := ⟨R_BN, "send", "(IIII)V"⟩
abbrev b_BN_sendValue : ByteArray := prog_1_method_19_code
def y_BN_sendValue : MethodName := ⟨R_BN, "sendValue", "(II)V"⟩
abbrev b_BN_sendSounds : ByteArray := prog_1_method_20_code
def y_BN_sendSounds : MethodName := ⟨R_BN, "sendSounds", "(I)V"⟩
abbrev b_BN_deliver : ByteArray := prog_1_method_21_code
def y_BN_deliver : MethodName := ⟨R_BN, "deliver", "()V"⟩
abbrev b_BN_deliverWithinLife : ByteArray := prog_1_method_22_code
def y_BN_deliverWithinLife : MethodName := ⟨R_BN, "deliverWithinLife", "(LBedsideNet$Device;)V"⟩
abbrev b_BN_learnAlarm : ByteArray := prog_1_method_23_code
def y_BN_learnAlarm : MethodName := ⟨R_BN, "learnAlarm", "(LBedsideNet$Known;)V"⟩
abbrev b_BN_takeOrder : ByteArray := prog_1_method_24_code
def y_BN_takeOrder : MethodName := ⟨R_BN, "takeOrder", "(LBedsideNet$Device;)V"⟩
abbrev b_BN_judge : ByteArray := prog_1_method_25_code
def y_BN_judge : MethodName := ⟨R_BN, "judge", "(LBedsideNet$Order;LBedsideNet$Device;)I"⟩
abbrev b_BN_bind : ByteArray := prog_1_method_26_code
def y_BN_bind : MethodName := ⟨R_BN, "bind", "(II)I"⟩
abbrev b_BN_shown : ByteArray := prog_1_method_27_code
def y_BN_shown : MethodName := ⟨R_BN, "shown", "(II)I"⟩
abbrev b_BN_leastDeviceWith : ByteArray := prog_1_method_28_code
def y_BN_leastDeviceWith : MethodName := ⟨R_BN, "leastDeviceWith", "(II)I"⟩
abbrev b_BN_acknowledge : ByteArray := prog_1_method_29_code
def y_BN_acknowledge : MethodName := ⟨R_BN, "acknowledge", "(II)Z"⟩
abbrev b_BN_inhibit : ByteArray := prog_1_method_30_code
def y_BN_inhibit : MethodName := ⟨R_BN, "inhibit", "(III)Z"⟩
abbrev b_BN_lease : ByteArray := prog_1_method_31_code
def y_BN_lease : MethodName := ⟨R_BN, "lease", "(II)Z"⟩
abbrev b_BN_order : ByteArray := prog_1_method_32_code
def y_BN_order : MethodName := ⟨R_BN, "order", "(IIII)I"⟩
abbrev b_BN_local : ByteArray := prog_1_method_33_code
def y_BN_local : MethodName := ⟨R_BN, "local", "(IIZ)Z"⟩
abbrev b_BN_restart : ByteArray := prog_1_method_34_code
def y_BN_restart : MethodName := ⟨R_BN, "restart", "(I)Z"⟩
abbrev b_BN_look : ByteArray := prog_1_method_35_code
def y_BN_look : MethodName := ⟨R_BN, "look", "(II)I"⟩
abbrev b_BN_deviceFact : ByteArray := prog_1_method_36_code
def y_BN_deviceFact : MethodName := ⟨R_BN, "deviceFact", "(LBedsideNet$Device;I)I"⟩
abbrev b_BN_channelFact : ByteArray := prog_1_method_37_code
def y_BN_channelFact : MethodName := ⟨R_BN, "channelFact", "(LBedsideNet$Channel;I)I"⟩
abbrev b_BN_count : ByteArray := prog_1_method_38_code
def y_BN_count : MethodName := ⟨R_BN, "count", "(I)I"⟩
abbrev b_BN_stationSounds : ByteArray := prog_1_method_39_code
def y_BN_stationSounds : MethodName := ⟨R_BN, "stationSounds", "()Z"⟩
abbrev b_BN_isDevice : ByteArray := prog_1_method_40_code
def y_BN_isDevice : MethodName := ⟨R_BN, "isDevice", "(I)Z"⟩
abbrev b_BN_isBed : ByteArray := prog_1_method_41_code
def y_BN_isBed : MethodName := ⟨R_BN, "isBed", "(I)Z"⟩
abbrev b_BN_isUnit : ByteArray := prog_1_method_42_code
def y_BN_isUnit : MethodName := ⟨R_BN, "isUnit", "(I)Z"⟩
abbrev b_BN_isController : ByteArray := prog_1_method_43_code
def y_BN_isController : MethodName := ⟨R_BN, "isController", "(I)Z"⟩
abbrev b_BN_isNumber : ByteArray := prog_1_method_44_code
def y_BN_isNumber : MethodName := ⟨R_BN, "isNumber", "(I)Z"⟩
abbrev b_BN_isSpan : ByteArray := prog_1_method_45_code
def y_BN_isSpan : MethodName := ⟨R_BN, "isSpan", "(I)Z"⟩
abbrev b_BN_isRange : ByteArray := prog_1_method_46_code
def y_BN_isRange : MethodName := ⟨R_BN, "isRange", "(III)Z"⟩
abbrev b_BN_isOpen : ByteArray := prog_1_method_47_code
def y_BN_isOpen : MethodName := ⟨R_BN, "isOpen", "(I)Z"⟩
abbrev b_BN_isSealed : ByteArray := prog_1_method_48_code
def y_BN_isSealed : MethodName := ⟨R_BN, "isSealed", "(I)Z"⟩
abbrev b_BN_isSettable : ByteArray := prog_1_method_49_code
def y_BN_isSettable : MethodName := ⟨R_BN, "isSettable", "(I)Z"⟩
abbrev b_MO_init : ByteArray := prog_13_method_1_code
def y_MO_init : MethodName := ⟨R_MO, "<init>", "()V"⟩
abbrev b_MO_thrown : ByteArray := prog_13_method_2_code
def y_MO_thrown : MethodName := ⟨R_MO, "thrown", "()I"⟩
abbrev b_MO_isDevice : ByteArray := prog_13_method_3_code
def y_MO_isDevice : MethodName := ⟨R_MO, "isDevice", "(I)Z"⟩
abbrev b_MO_isBed : ByteArray := prog_13_method_4_code
def y_MO_isBed : MethodName := ⟨R_MO, "isBed", "(I)Z"⟩
abbrev b_MO_isAt : ByteArray := prog_13_method_5_code
def y_MO_isAt : MethodName := ⟨R_MO, "isAt", "(II)Z"⟩
abbrev b_MO_isChannel : ByteArray := prog_13_method_6_code
def y_MO_isChannel : MethodName := ⟨R_MO, "isChannel", "(II)Z"⟩
abbrev b_MO_isNumber : ByteArray := prog_13_method_7_code
def y_MO_isNumber : MethodName := ⟨R_MO, "isNumber", "(I)Z"⟩
abbrev b_MO_isRange : ByteArray := prog_13_method_8_code
def y_MO_isRange : MethodName := ⟨R_MO, "isRange", "(III)Z"⟩
abbrev b_MO_fits : ByteArray := prog_13_method_9_code
def y_MO_fits : MethodName := ⟨R_MO, "fits", "(IIII)Z"⟩
abbrev b_MO_forget : ByteArray := prog_13_method_10_code
def y_MO_forget : MethodName := ⟨R_MO, "forget", "(I)V"⟩
abbrev b_MO_device : ByteArray := prog_13_method_11_code
def y_MO_device : MethodName := ⟨R_MO, "device", "(II)Z"⟩
abbrev b_MO_channel : ByteArray := prog_13_method_12_code
def y_MO_channel : MethodName := ⟨R_MO, "channel", "(IIIII)I"⟩
abbrev b_MO_alarm : ByteArray := prog_13_method_13_code
def y_MO_alarm : MethodName := ⟨R_MO, "alarm", "(IIIII)Z"⟩
abbrev b_MO_setPoint : ByteArray := prog_13_method_14_code
def y_MO_setPoint : MethodName := ⟨R_MO, "setPoint", "(IIII)Z"⟩
abbrev b_MO_seal : ByteArray := prog_13_method_15_code
def y_MO_seal : MethodName := ⟨R_MO, "seal", "(I)Z"⟩
abbrev b_MO_untie : ByteArray := prog_13_method_16_code
def y_MO_untie : MethodName := ⟨R_MO, "untie", "(I)V"⟩
abbrev b_MO_move : ByteArray := prog_13_method_17_code
def y_MO_move : MethodName := ⟨R_MO, "move", "(II)Z"⟩
abbrev b_MO_patient : ByteArray := prog_13_method_18_code
def y_MO_patient : MethodName := ⟨R_MO, "patient", "(II)Z"⟩
abbrev b_MO_confirm : ByteArray := prog_13_method_19_code
def y_MO_confirm : MethodName := ⟨R_MO, "confirm", "(I)Z"⟩
abbrev b_MO_send : ByteArray := prog_13_method_20_code
def y_MO_send : MethodName := ⟨R_MO, "send", "(IIIII)V"⟩
abbrev b_MO_sendValue : ByteArray := prog_13_method_21_code
def y_MO_sendValue : MethodName := ⟨R_MO, "sendValue", "(II)V"⟩
abbrev b_MO_sendSounds : ByteArray := prog_13_method_22_code
def y_MO_sendSounds : MethodName := ⟨R_MO, "sendSounds", "(I)V"⟩
abbrev b_MO_find : ByteArray := prog_13_method_23_code
def y_MO_find : MethodName := ⟨R_MO, "find", "(I)I"⟩
abbrev b_MO_take : ByteArray := prog_13_method_24_code
def y_MO_take : MethodName := ⟨R_MO, "take", "(I)V"⟩
abbrev b_MO_isAbove : ByteArray := prog_13_method_25_code
def y_MO_isAbove : MethodName := ⟨R_MO, "isAbove", "(I)Z"⟩
abbrev b_MO_isSo : ByteArray := prog_13_method_26_code
def y_MO_isSo : MethodName := ⟨R_MO, "isSo", "(I)Z"⟩
abbrev b_MO_since : ByteArray := prog_13_method_27_code
def y_MO_since : MethodName := ⟨R_MO, "since", "(I)I"⟩
abbrev b_MO_settle : ByteArray := prog_13_method_28_code
def y_MO_settle : MethodName := ⟨R_MO, "settle", "()V"⟩
abbrev b_MO_sample : ByteArray := prog_13_method_29_code
def y_MO_sample : MethodName := ⟨R_MO, "sample", "(III)Z"⟩
abbrev b_MO_knowsLoud : ByteArray := prog_13_method_30_code
def y_MO_knowsLoud : MethodName := ⟨R_MO, "knowsLoud", "(I)Z"⟩
abbrev b_MO_tick : ByteArray := prog_13_method_31_code
def y_MO_tick : MethodName := ⟨R_MO, "tick", "(I)I"⟩
abbrev b_MO_shows : ByteArray := prog_13_method_32_code
def y_MO_shows : MethodName := ⟨R_MO, "shows", "(IIIIII)V"⟩
abbrev b_MO_knows : ByteArray := prog_13_method_33_code
def y_MO_knows : MethodName := ⟨R_MO, "knows", "(IIII)V"⟩
abbrev b_MO_judged : ByteArray := prog_13_method_34_code
def y_MO_judged : MethodName := ⟨R_MO, "judged", "(III)I"⟩
abbrev b_MO_orders : ByteArray := prog_13_method_35_code
def y_MO_orders : MethodName := ⟨R_MO, "orders", "(III)V"⟩
abbrev b_MO_carry : ByteArray := prog_13_method_36_code
def y_MO_carry : MethodName := ⟨R_MO, "carry", "(IZ)Z"⟩
abbrev b_MO_drop : ByteArray := prog_13_method_37_code
def y_MO_drop : MethodName := ⟨R_MO, "drop", "(I)Z"⟩
abbrev b_MO_bind : ByteArray := prog_13_method_38_code
def y_MO_bind : MethodName := ⟨R_MO, "bind", "(II)I"⟩
abbrev b_MO_shown : ByteArray := prog_13_method_39_code
def y_MO_shown : MethodName := ⟨R_MO, "shown", "(II)I"⟩
abbrev b_MO_acknowledge : ByteArray := prog_13_method_40_code
def y_MO_acknowledge : MethodName := ⟨R_MO, "acknowledge", "(II)Z"⟩
abbrev b_MO_inhibit : ByteArray := prog_13_method_41_code
def y_MO_inhibit : MethodName := ⟨R_MO, "inhibit", "(III)Z"⟩
abbrev b_MO_isController : ByteArray := prog_13_method_42_code
def y_MO_isController : MethodName := ⟨R_MO, "isController", "(I)Z"⟩
abbrev b_MO_isLeased : ByteArray := prog_13_method_43_code
def y_MO_isLeased : MethodName := ⟨R_MO, "isLeased", "(I)Z"⟩
abbrev b_MO_lease : ByteArray := prog_13_method_44_code
def y_MO_lease : MethodName := ⟨R_MO, "lease", "(II)Z"⟩
abbrev b_MO_order : ByteArray := prog_13_method_45_code
def y_MO_order : MethodName := ⟨R_MO, "order", "(IIII)I"⟩
abbrev b_MO_local : ByteArray := prog_13_method_46_code
def y_MO_local : MethodName := ⟨R_MO, "local", "(IIZ)Z"⟩
abbrev b_MO_restart : ByteArray := prog_13_method_47_code
def y_MO_restart : MethodName := ⟨R_MO, "restart", "(I)Z"⟩
abbrev b_MO_isLoud : ByteArray := prog_13_method_48_code
def y_MO_isLoud : MethodName := ⟨R_MO, "isLoud", "(I)Z"⟩
abbrev b_MO_levelOf : ByteArray := prog_13_method_49_code
def y_MO_levelOf : MethodName := ⟨R_MO, "levelOf", "(I)I"⟩
abbrev b_MO_lookChannel : ByteArray := prog_13_method_50_code
def y_MO_lookChannel : MethodName := ⟨R_MO, "lookChannel", "(II)I"⟩
abbrev b_MO_look : ByteArray := prog_13_method_51_code
def y_MO_look : MethodName := ⟨R_MO, "look", "(II)I"⟩
abbrev b_MO_message : ByteArray := prog_13_method_52_code
def y_MO_message : MethodName := ⟨R_MO, "message", "(II)I"⟩
abbrev b_MO_count : ByteArray := prog_13_method_53_code
def y_MO_count : MethodName := ⟨R_MO, "count", "(I)I"⟩
abbrev b_AL_init : ByteArray := prog_2_method_1_code
def y_AL_init : MethodName := ⟨R_AL, "<init>", "()V"⟩
abbrev b_AL_describe : ByteArray := prog_2_method_2_code
def y_AL_describe : MethodName := ⟨R_AL, "describe", "(III)V"⟩
abbrev b_AL_watch : ByteArray := prog_2_method_3_code
def y_AL_watch : MethodName := ⟨R_AL, "watch", "(II)V"⟩
abbrev b_AL_forget : ByteArray := prog_2_method_4_code
def y_AL_forget : MethodName := ⟨R_AL, "forget", "()V"⟩
abbrev b_AL_settle : ByteArray := prog_2_method_5_code
def y_AL_settle : MethodName := ⟨R_AL, "settle", "(I)Z"⟩
abbrev b_AL_hush : ByteArray := prog_2_method_6_code
def y_AL_hush : MethodName := ⟨R_AL, "hush", "()V"⟩
abbrev b_AL_isLoud : ByteArray := prog_2_method_7_code
def y_AL_isLoud : MethodName := ⟨R_AL, "isLoud", "()Z"⟩
abbrev b_AL_standing : ByteArray := prog_2_method_8_code
def y_AL_standing : MethodName := ⟨R_AL, "standing", "()I"⟩
abbrev b_AL_levelAt : ByteArray := prog_2_method_9_code
def y_AL_levelAt : MethodName := ⟨R_AL, "levelAt", "(I)I"⟩
abbrev b_CH_init : ByteArray := prog_3_method_1_code
def y_CH_init : MethodName := ⟨R_CH, "<init>", "()V"⟩
abbrev b_CH_begin : ByteArray := prog_3_method_2_code
def y_CH_begin : MethodName := ⟨R_CH, "begin", "(IIII)V"⟩
abbrev b_CH_measure : ByteArray := prog_3_method_3_code
def y_CH_measure : MethodName := ⟨R_CH, "measure", "(II)V"⟩
abbrev b_CH_forget : ByteArray := prog_3_method_4_code
def y_CH_forget : MethodName := ⟨R_CH, "forget", "()V"⟩
abbrev b_DE_init : ByteArray := prog_4_method_1_code
def y_DE_init : MethodName := ⟨R_DE, "<init>", "()V"⟩
abbrev b_DE_begin : ByteArray := prog_4_method_2_code
def y_DE_begin : MethodName := ⟨R_DE, "begin", "(I)V"⟩
abbrev b_DE_beginLife : ByteArray := prog_4_method_3_code
def y_DE_beginLife : MethodName := ⟨R_DE, "beginLife", "()V"⟩
abbrev b_DE_tie : ByteArray := prog_4_method_4_code
def y_DE_tie : MethodName := ⟨R_DE, "tie", "(I)V"⟩
abbrev b_DE_hasChannel : ByteArray := prog_4_method_5_code
def y_DE_hasChannel : MethodName := ⟨R_DE, "hasChannel", "(I)Z"⟩
abbrev b_DE_leastChannelWith : ByteArray := prog_4_method_6_code
def y_DE_leastChannelWith : MethodName := ⟨R_DE, "leastChannelWith", "(I)I"⟩
abbrev b_DE_soundsAt : ByteArray := prog_4_method_7_code
def y_DE_soundsAt : MethodName := ⟨R_DE, "soundsAt", "(I)Z"⟩
abbrev b_DE_soundsAtStation : ByteArray := prog_4_method_8_code
def y_DE_soundsAtStation : MethodName := ⟨R_DE, "soundsAtStation", "()Z"⟩
abbrev b_DI_init : ByteArray := prog_5_method_1_code
def y_DI_init : MethodName := ⟨R_DI, "<init>", "()V"⟩
abbrev b_DI_attach : ByteArray := prog_5_method_2_code
def y_DI_attach : MethodName := ⟨R_DI, "attach", "(IIII)V"⟩
abbrev b_DI_hear : ByteArray := prog_5_method_3_code
def y_DI_hear : MethodName := ⟨R_DI, "hear", "(LBedsideNet$Message;I)V"⟩
abbrev b_KN_init : ByteArray := prog_6_method_1_code
def y_KN_init : MethodName := ⟨R_KN, "<init>", "()V"⟩
abbrev b_KN_learn : ByteArray := prog_6_method_2_code
def y_KN_learn : MethodName := ⟨R_KN, "learn", "(IZ)V"⟩
abbrev b_KN_sounds : ByteArray := prog_6_method_3_code
def y_KN_sounds : MethodName := ⟨R_KN, "sounds", "()Z"⟩
abbrev b_KN_standing : ByteArray := prog_6_method_4_code
def y_KN_standing : MethodName := ⟨R_KN, "standing", "()I"⟩
abbrev b_ME_init : ByteArray := prog_7_method_1_code
def y_ME_init : MethodName := ⟨R_ME, "<init>", "()V"⟩
abbrev b_ME_copy : ByteArray := prog_7_method_2_code
def y_ME_copy : MethodName := ⟨R_ME, "copy", "(LBedsideNet$Message;)V"⟩
abbrev b_ME_fact : ByteArray := prog_7_method_3_code
def y_ME_fact : MethodName := ⟨R_ME, "fact", "(I)I"⟩
abbrev b_OR_init : ByteArray := prog_8_method_1_code
def y_OR_init : MethodName := ⟨R_OR, "<init>", "()V"⟩
abbrev b_OR_write : ByteArray := prog_8_method_2_code
def y_OR_write : MethodName := ⟨R_OR, "write", "(III)V"⟩
abbrev b_PO_init : ByteArray := prog_9_method_1_code
def y_PO_init : MethodName := ⟨R_PO, "<init>", "()V"⟩
abbrev b_PO_send : ByteArray := prog_9_method_2_code
def y_PO_send : MethodName := ⟨R_PO, "send", "(IIIIIII)V"⟩
abbrev b_PO_indexOf : ByteArray := prog_9_method_3_code
def y_PO_indexOf : MethodName := ⟨R_PO, "indexOf", "(I)I"⟩
abbrev b_PO_remove : ByteArray := prog_9_method_4_code
def y_PO_remove : MethodName := ⟨R_PO, "remove", "(I)V"⟩
abbrev b_RA_init : ByteArray := prog_10_method_1_code
def y_RA_init : MethodName := ⟨R_RA, "<init>", "()V"⟩
abbrev b_RA_set : ByteArray := prog_10_method_2_code
def y_RA_set : MethodName := ⟨R_RA, "set", "(III)V"⟩
abbrev b_RA_fits : ByteArray := prog_10_method_3_code
def y_RA_fits : MethodName := ⟨R_RA, "fits", "(I)Z"⟩
abbrev b_SE_init : ByteArray := prog_11_method_1_code
def y_SE_init : MethodName := ⟨R_SE, "<init>", "()V"⟩
abbrev b_SE_describe : ByteArray := prog_11_method_2_code
def y_SE_describe : MethodName := ⟨R_SE, "describe", "(III)V"⟩
abbrev b_SE_holderAt : ByteArray := prog_11_method_3_code
def y_SE_holderAt : MethodName := ⟨R_SE, "holderAt", "(I)I"⟩
abbrev b_LA_channel : ByteArray := method_3_code
def y_LA_channel : MethodName := ⟨R_LA, "channel", "(LBedsideNet;IIIII[J)I"⟩
abbrev b_LA_tick : ByteArray := method_4_code
def y_LA_tick : MethodName := ⟨R_LA, "tick", "(LBedsideNet;I[J)I"⟩
abbrev b_LA_bind : ByteArray := method_5_code
def y_LA_bind : MethodName := ⟨R_LA, "bind", "(LBedsideNet;II[J)I"⟩
abbrev b_LA_shown : ByteArray := method_6_code
def y_LA_shown : MethodName := ⟨R_LA, "shown", "(LBedsideNet;II[J)I"⟩
abbrev b_LA_order : ByteArray := method_7_code
def y_LA_order : MethodName := ⟨R_LA, "order", "(LBedsideNet;IIII[J)I"⟩
abbrev b_LA_look : ByteArray := method_8_code
def y_LA_look : MethodName := ⟨R_LA, "look", "(LBedsideNet;II[J)I"⟩
abbrev b_LA_message : ByteArray := method_9_code
def y_LA_message : MethodName := ⟨R_LA, "message", "(LBedsideNet;II[J)I"⟩
abbrev b_LA_law : ByteArray := code
end
section
theorem d_BN_init_0 : decode b_BN_init 0 = .ok (.aload_n 0, 1) := by decide +kernel
theorem d_BN_init_1 : decode b_BN_init 1 = .ok (.invokespecial 1, 3) := by decide +kernel
theorem d_BN_init_4 : decode b_BN_init 4 = .ok (.aload_n 0, 1) := by decide +kernel
theorem d_BN_init_5 : decode b_BN_init 5 = .ok (.bipush 8, 2) := by decide +kernel
theorem d_BN_init_7 : decode b_BN_init 7 = .ok (.anewarray 9, 3) := by decide +kernel
theorem d_BN_init_10 : decode b_BN_init 10 = .ok (.putfield 11, 3) := by decide +kernel
theorem d_BN_init_13 : decode b_BN_init 13 = .ok (.aload_n 0, 1) := by decide +kernel
theorem d_BN_init_14 : decode b_BN_init 14 = .ok (.iconst 4, 1) := by decide +kernel
theorem d_BN_init_15 : decode b_BN_init 15 = .ok (.newarray .int, 2) := by decide +kernel
theorem d_BN_init_17 : decode b_BN_init 17 = .ok (.putfield 15, 3) := by decide +kernel
theorem d_BN_init_20 : decode b_BN_init 20 = .ok (.aload_n 0, 1) := by decide +kernel
theorem d_BN_init_21 : decode b_BN_init 21 = .ok (.bipush 16, 2) := by decide +kernel
theorem d_BN_init_23 : decode b_BN_init 23 = .ok (.anewarray 19, 3) := by decide +kernel
theorem d_BN_init_26 : decode b_BN_init 26 = .ok (.putfield 21, 3) := by decide +kernel
theorem d_BN_init_29 : decode b_BN_init 29 = .ok (.aload_n 0, 1) := by decide +kernel
theorem d_BN_init_30 : decode b_BN_init 30 = .ok (.bipush 100, 2) := by decide +kernel
theorem d_BN_init_32 : decode b_BN_init 32 = .ok (.anewarray 25, 3) := by decide +kernel
theorem d_BN_init_35 : decode b_BN_init 35 = .ok (.putfield 27, 3) := by decide +kernel
theorem d_BN_init_38 : decode b_BN_init 38 = .ok (.aload_n 0, 1) := by decide +kernel
theorem d_BN_init_39 : decode b_BN_init 39 = .ok (.new 31, 3) := by decide +kernel
theorem d_BN_init_42 : decode b_BN_init 42 = .ok (.dup, 1) := by decide +kernel
theorem d_BN_init_43 : decode b_BN_init 43 = .ok (.invokespecial 33, 3) := by decide +kernel
theorem d_BN_init_46 : decode b_BN_init 46 = .ok (.putfield 34, 3) := by decide +kernel
theorem d_BN_init_49 : decode b_BN_init 49 = .ok (.aload_n 0, 1) := by decide +kernel
theorem d_BN_init_50 : decode b_BN_init 50 = .ok (.new 38, 3) := by decide +kernel
theorem d_BN_init_53 : decode b_BN_init 53 = .ok (.dup, 1) := by decide +kernel
theorem d_BN_init_54 : decode b_BN_init 54 = .ok (.invokespecial 40, 3) := by decide +kernel
theorem d_BN_init_57 : decode b_BN_init 57 = .ok (.putfield 41, 3) := by decide +kernel
theorem d_BN_init_60 : decode b_BN_init 60 = .ok (.iconst 0, 1) := by decide +kernel
theorem d_BN_init_61 : decode b_BN_init 61 = .ok (.istore_n 1, 1) := by decide +kernel
theorem d_BN_init_62 : decode b_BN_init 62 = .ok (.iload_n 1, 1) := by decide +kernel
theorem d_BN_init_63 : decode b_BN_init 63 = .ok (.bipush 8, 2) := by decide +kernel
theorem d_BN_init_65 : decode b_BN_init 65 = .ok (.if_icmp .ge 22, 3) := by decide +kernel
theorem d_BN_init_68 : decode b_BN_init 68 = .ok (.aload_n 0, 1) := by decide +kernel
theorem d_BN_init_69 : decode b_BN_init 69 = .ok (.getfield 11, 3) := by decide +kernel
theorem d_BN_init_72 : decode b_BN_init 72 = .ok (.iload_n 1, 1) := by decide +kernel
theorem d_BN_init_73 : decode b_BN_init 73 = .ok (.new 9, 3) := by decide +kernel
theorem d_BN_init_76 : decode b_BN_init 76 = .ok (.dup, 1) := by decide +kernel
theorem d_BN_init_77 : decode b_BN_init 77 = .ok (.invokespecial 45, 3) := by decide +kernel
theorem d_BN_init_80 : decode b_BN_init 80 = .ok (.aastore, 1) := by decide +kernel
theorem d_BN_init_81 : decode b_BN_init 81 = .ok (.iinc 1 1, 3) := by decide +kernel
theorem d_BN_init_84 : decode b_BN_init 84 = .ok (.goto (-22), 3) := by decide +kernel
theorem d_BN_init_87 : decode b_BN_init 87 = .ok (.iconst 0, 1) := by decide +kernel
theorem d_BN_init_88 : decode b_BN_init 88 = .ok (.istore_n 1, 1) := by decide +kernel
theorem d_BN_init_89 : decode b_BN_init 89 = .ok (.iload_n 1, 1) := by decide +kernel
theorem d_BN_init_90 : decode b_BN_init 90 = .ok (.bipush 16, 2) := by decide +kernel
theorem d_BN_init_92 : decode b_BN_init 92 = .ok (.if_icmp .ge 22, 3) := by decide +kernel
theorem d_BN_init_95 : decode b_BN_init 95 = .ok (.aload_n 0, 1) := by decide +kernel
theorem d_BN_init_96 : decode b_BN_init 96 = .ok (.getfield 21, 3) := by decide +kernel
theorem d_BN_init_99 : decode b_BN_init 99 = .ok (.iload_n 1, 1) := by decide +kernel
theorem d_BN_init_100 : decode b_BN_init 100 = .ok (.new 19, 3) := by decide +kernel
theorem d_BN_init_103 : decode b_BN_init 103 = .ok (.dup, 1) := by decide +kernel
theorem d_BN_init_104 : decode b_BN_init 104 = .ok (.invokespecial 46, 3) := by decide +kernel
theorem d_BN_init_107 : decode b_BN_init 107 = .ok (.aastore, 1) := by decide +kernel
theorem d_BN_init_108 : decode b_BN_init 108 = .ok (.iinc 1 1, 3) := by decide +kernel
theorem d_BN_init_111 : decode b_BN_init 111 = .ok (.goto (-22), 3) := by decide +kernel
theorem d_BN_init_114 : decode b_BN_init 114 = .ok (.iconst 0, 1) := by decide +kernel
theorem d_BN_init_115 : decode b_BN_init 115 = .ok (.istore_n 1, 1) := by decide +kernel
theorem d_BN_init_116 : decode b_BN_init 116 = .ok (.iload_n 1, 1) := by decide +kernel
theorem d_BN_init_117 : decode b_BN_init 117 = .ok (.bipush 100, 2) := by decide +kernel
theorem d_BN_init_119 : decode b_BN_init 119 = .ok (.if_icmp .ge 22, 3) := by decide +kernel
theorem d_BN_init_122 : decode b_BN_init 122 = .ok (.aload_n 0, 1) := by decide +kernel
theorem d_BN_init_123 : decode b_BN_init 123 = .ok (.getfield 27, 3) := by decide +kernel
theorem d_BN_init_126 : decode b_BN_init 126 = .ok (.iload_n 1, 1) := by decide +kernel
theorem d_BN_init_127 : decode b_BN_init 127 = .ok (.new 25, 3) := by decide +kernel
theorem d_BN_init_130 : decode b_BN_init 130 = .ok (.dup, 1) := by decide +kernel
theorem d_BN_init_131 : decode b_BN_init 131 = .ok (.invokespecial 47, 3) := by decide +kernel
theorem d_BN_init_134 : decode b_BN_init 134 = .ok (.aastore, 1) := by decide +kernel
theorem d_BN_init_135 : decode b_BN_init 135 = .ok (.iinc 1 1, 3) := by decide +kernel
theorem d_BN_init_138 : decode b_BN_init 138 = .ok (.goto (-22), 3) := by decide +kernel
theorem d_BN_init_141 : decode b_BN_init 141 = .ok (.return_, 1) := by decide +kernel
theorem d_BN_device_0 : decode b_BN_device 0 = .ok (.iload_n 1, 1) := by decide +kernel
theorem d_BN_device_1 : decode b_BN_device 1 = .ok (.invokestatic 48, 3) := by decide +kernel
theorem d_BN_device_4 : decode b_BN_device 4 = .ok (.ifCond .eq 23, 3) := by decide +kernel
theorem d_BN_device_7 : decode b_BN_device 7 = .ok (.iload_n 2, 1) := by decide +kernel
theorem d_BN_device_8 : decode b_BN_device 8 = .ok (.invokestatic 52, 3) := by decide +kernel
theorem d_BN_device_11 : decode b_BN_device 11 = .ok (.ifCond .eq 16, 3) := by decide +kernel
theorem d_BN_device_14 : decode b_BN_device 14 = .ok (.aload_n 0, 1) := by decide +kernel
theorem d_BN_device_15 : decode b_BN_device 15 = .ok (.getfield 11, 3) := by decide +kernel
theorem d_BN_device_18 : decode b_BN_device 18 = .ok (.iload_n 1, 1) := by decide +kernel
theorem d_BN_device_19 : decode b_BN_device 19 = .ok (.aaload, 1) := by decide +kernel
theorem d_BN_device_20 : decode b_BN_device 20 = .ok (.getfield 55, 3) := by decide +kernel
theorem d_BN_device_23 : decode b_BN_device 23 = .ok (.iconst 2, 1) := by decide +kernel
theorem d_BN_device_24 : decode b_BN_device 24 = .ok (.if_icmp .ne 5, 3) := by decide +kernel
theorem d_BN_device_27 : decode b_BN_device 27 = .ok (.iconst 0, 1) := by decide +kernel
theorem d_BN_device_28 : decode b_BN_device 28 = .ok (.ireturn, 1) := by decide +kernel
theorem d_BN_device_29 : decode b_BN_device 29 = .ok (.aload_n 0, 1) := by decide +kernel
theorem d_BN_device_30 : decode b_BN_device 30 = .ok (.getfield 11, 3) := by decide +kernel
theorem d_BN_device_33 : decode b_BN_device 33 = .ok (.iload_n 1, 1) := by decide +kernel
theorem d_BN_device_34 : decode b_BN_device 34 = .ok (.aaload, 1) := by decide +kernel
theorem d_BN_device_35 : decode b_BN_device 35 = .ok (.iload_n 2, 1) := by decide +kernel
theorem d_BN_device_36 : decode b_BN_device 36 = .ok (.invokevirtual 59, 3) := by decide +kernel
theorem d_BN_device_39 : decode b_BN_device 39 = .ok (.iconst 1, 1) := by decide +kernel
theorem d_BN_device_40 : decode b_BN_device 40 = .ok (.ireturn, 1) := by decide +kernel
theorem d_BN_channel_0 : decode b_BN_channel 0 = .ok (.aload_n 0, 1) := by decide +kernel
theorem d_BN_channel_1 : decode b_BN_channel 1 = .ok (.iload_n 1, 1) := by decide +kernel
theorem d_BN_channel_2 : decode b_BN_channel 2 = .ok (.invokevirtual 63, 3) := by decide +kernel
theorem d_BN_channel_5 : decode b_BN_channel 5 = .ok (.ifCond .eq 21, 3) := by decide +kernel
theorem d_BN_channel_8 : decode b_BN_channel 8 = .ok (.iload_n 2, 1) := by decide +kernel
theorem d_BN_channel_9 : decode b_BN_channel 9 = .ok (.invokestatic 66, 3) := by decide +kernel
theorem d_BN_channel_12 : decode b_BN_channel 12 = .ok (.ifCond .eq 14, 3) := by decide +kernel
theorem d_BN_channel_15 : decode b_BN_channel 15 = .ok (.iload_n 3, 1) := by decide +kernel
theorem d_BN_channel_16 : decode b_BN_channel 16 = .ok (.iload 4, 2) := by decide +kernel
theorem d_BN_channel_18 : decode b_BN_channel 18 = .ok (.iload 5, 2) := by decide +kernel
theorem d_BN_channel_20 : decode b_BN_channel 20 = .ok (.invokestatic 69, 3) := by decide +kernel
theorem d_BN_channel_23 : decode b_BN_channel 23 = .ok (.ifCond .ne 11, 3) := by decide +kernel
theorem d_BN_channel_26 : decode b_BN_channel 26 = .ok (.new 73, 3) := by decide +kernel
theorem d_BN_channel_29 : decode b_BN_channel 29 = .ok (.dup, 1) := by decide +kernel
theorem d_BN_channel_30 : decode b_BN_channel 30 = .ok (.invokespecial 75, 3) := by decide +kernel
theorem d_BN_channel_33 : decode b_BN_channel 33 = .ok (.athrow, 1) := by decide +kernel
theorem d_BN_channel_34 : decode b_BN_channel 34 = .ok (.aload_n 0, 1) := by decide +kernel
theorem d_BN_channel_35 : decode b_BN_channel 35 = .ok (.getfield 11, 3) := by decide +kernel
theorem d_BN_channel_38 : decode b_BN_channel 38 = .ok (.iload_n 1, 1) := by decide +kernel
theorem d_BN_channel_39 : decode b_BN_channel 39 = .ok (.aaload, 1) := by decide +kernel
theorem d_BN_channel_40 : decode b_BN_channel 40 = .ok (.astore 6, 2) := by decide +kernel
theorem d_BN_channel_42 : decode b_BN_channel 42 = .ok (.aload 6, 2) := by decide +kernel
theorem d_BN_channel_44 : decode b_BN_channel 44 = .ok (.getfield 76, 3) := by decide +kernel
theorem d_BN_channel_47 : decode b_BN_channel 47 = .ok (.iconst 4, 1) := by decide +kernel
theorem d_BN_channel_48 : decode b_BN_channel 48 = .ok (.if_icmp .lt 11, 3) := by decide +kernel
theorem d_BN_channel_51 : decode b_BN_channel 51 = .ok (.new 79, 3) := by decide +kernel
theorem d_BN_channel_54 : decode b_BN_channel 54 = .ok (.dup, 1) := by decide +kernel
theorem d_BN_channel_55 : decode b_BN_channel 55 = .ok (.invokespecial 81, 3) := by decide +kernel
theorem d_BN_channel_58 : decode b_BN_channel 58 = .ok (.athrow, 1) := by decide +kernel
theorem d_BN_channel_59 : decode b_BN_channel 59 = .ok (.aload 6, 2) := by decide +kernel
theorem d_BN_channel_61 : decode b_BN_channel 61 = .ok (.getfield 76, 3) := by decide +kernel
theorem d_BN_channel_64 : decode b_BN_channel 64 = .ok (.istore 7, 2) := by decide +kernel
theorem d_BN_channel_66 : decode b_BN_channel 66 = .ok (.aload 6, 2) := by decide +kernel
theorem d_BN_channel_68 : decode b_BN_channel 68 = .ok (.getfield 82, 3) := by decide +kernel
theorem d_BN_channel_71 : decode b_BN_channel 71 = .ok (.iload 7, 2) := by decide +kernel
theorem d_BN_channel_73 : decode b_BN_channel 73 = .ok (.aaload, 1) := by decide +kernel
theorem d_BN_channel_74 : decode b_BN_channel 74 = .ok (.iload_n 2, 1) := by decide +kernel
theorem d_BN_channel_75 : decode b_BN_channel 75 = .ok (.iload_n 3, 1) := by decide +kernel
theorem d_BN_channel_76 : decode b_BN_channel 76 = .ok (.iload 4, 2) := by decide +kernel
theorem d_BN_channel_78 : decode b_BN_channel 78 = .ok (.iload 5, 2) := by decide +kernel
theorem d_BN_channel_80 : decode b_BN_channel 80 = .ok (.invokevirtual 86, 3) := by decide +kernel
theorem d_BN_channel_83 : decode b_BN_channel 83 = .ok (.aload 6, 2) := by decide +kernel
theorem d_BN_channel_85 : decode b_BN_channel 85 = .ok (.iload 7, 2) := by decide +kernel
theorem d_BN_channel_87 : decode b_BN_channel 87 = .ok (.iconst 1, 1) := by decide +kernel
theorem d_BN_channel_88 : decode b_BN_channel 88 = .ok (.iadd, 1) := by decide +kernel
theorem d_BN_channel_89 : decode b_BN_channel 89 = .ok (.putfield 76, 3) := by decide +kernel
theorem d_BN_channel_92 : decode b_BN_channel 92 = .ok (.iload 7, 2) := by decide +kernel
theorem d_BN_channel_94 : decode b_BN_channel 94 = .ok (.ireturn, 1) := by decide +kernel
theorem d_BN_alarm_0 : decode b_BN_alarm 0 = .ok (.aload_n 0, 1) := by decide +kernel
theorem d_BN_alarm_1 : decode b_BN_alarm 1 = .ok (.iload_n 1, 1) := by decide +kernel
theorem d_BN_alarm_2 : decode b_BN_alarm 2 = .ok (.invokevirtual 63, 3) := by decide +kernel
theorem d_BN_alarm_5 : decode b_BN_alarm 5 = .ok (.ifCond .eq 16, 3) := by decide +kernel
theorem d_BN_alarm_8 : decode b_BN_alarm 8 = .ok (.aload_n 0, 1) := by decide +kernel
theorem d_BN_alarm_9 : decode b_BN_alarm 9 = .ok (.getfield 11, 3) := by decide +kernel
theorem d_BN_alarm_12 : decode b_BN_alarm 12 = .ok (.iload_n 1, 1) := by decide +kernel
theorem d_BN_alarm_13 : decode b_BN_alarm 13 = .ok (.aaload, 1) := by decide +kernel
theorem d_BN_alarm_14 : decode b_BN_alarm 14 = .ok (.iload_n 2, 1) := by decide +kernel
theorem d_BN_alarm_15 : decode b_BN_alarm 15 = .ok (.invokevirtual 91, 3) := by decide +kernel
theorem d_BN_alarm_18 : decode b_BN_alarm 18 = .ok (.ifCond .ne 5, 3) := by decide +kernel
theorem d_BN_alarm_21 : decode b_BN_alarm 21 = .ok (.iconst 0, 1) := by decide +kernel
theorem d_BN_alarm_22 : decode b_BN_alarm 22 = .ok (.ireturn, 1) := by decide +kernel
theorem d_BN_alarm_23 : decode b_BN_alarm 23 = .ok (.iload_n 3, 1) := by decide +kernel
theorem d_BN_alarm_24 : decode b_BN_alarm 24 = .ok (.iconst 1, 1) := by decide +kernel
theorem d_BN_alarm_25 : decode b_BN_alarm 25 = .ok (.if_icmp .lt 24, 3) := by decide +kernel
theorem d_BN_alarm_28 : decode b_BN_alarm 28 = .ok (.iload_n 3, 1) := by decide +kernel
theorem d_BN_alarm_29 : decode b_BN_alarm 29 = .ok (.iconst 3, 1) := by decide +kernel
theorem d_BN_alarm_30 : decode b_BN_alarm 30 = .ok (.if_icmp .gt 19, 3) := by decide +kernel
theorem d_BN_alarm_33 : decode b_BN_alarm 33 = .ok (.iload 4, 2) := by decide +kernel
theorem d_BN_alarm_35 : decode b_BN_alarm 35 = .ok (.invokestatic 94, 3) := by decide +kernel
theorem d_BN_alarm_38 : decode b_BN_alarm 38 = .ok (.ifCond .eq 11, 3) := by decide +kernel
theorem d_BN_alarm_41 : decode b_BN_alarm 41 = .ok (.iload 5, 2) := by decide +kernel
theorem d_BN_alarm_43 : decode b_BN_alarm 43 = .ok (.invokestatic 97, 3) := by decide +kernel
theorem d_BN_alarm_46 : decode b_BN_alarm 46 = .ok (.ifCond .ne 5, 3) := by decide +kernel
theorem d_BN_alarm_49 : decode b_BN_alarm 49 = .ok (.iconst 0, 1) := by decide +kernel
theorem d_BN_alarm_50 : decode b_BN_alarm 50 = .ok (.ireturn, 1) := by decide +kernel
theorem d_BN_alarm_51 : decode b_BN_alarm 51 = .ok (.aload_n 0, 1) := by decide +kernel
theorem d_BN_alarm_52 : decode b_BN_alarm 52 = .ok (.getfield 11, 3) := by decide +kernel
theorem d_BN_alarm_55 : decode b_BN_alarm 55 = .ok (.iload_n 1, 1) := by decide +kernel
theorem d_BN_alarm_56 : decode b_BN_alarm 56 = .ok (.aaload, 1) := by decide +kernel
theorem d_BN_alarm_57 : decode b_BN_alarm 57 = .ok (.getfield 82, 3) := by decide +kernel
theorem d_BN_alarm_60 : decode b_BN_alarm 60 = .ok (.iload_n 2, 1) := by decide +kernel
theorem d_BN_alarm_61 : decode b_BN_alarm 61 = .ok (.aaload, 1) := by decide +kernel
theorem d_BN_alarm_62 : decode b_BN_alarm 62 = .ok (.getfield 100, 3) := by decide +kernel
theorem d_BN_alarm_65 : decode b_BN_alarm 65 = .ok (.iload_n 3, 1) := by decide +kernel
theorem d_BN_alarm_66 : decode b_BN_alarm 66 = .ok (.iload 4, 2) := by decide +kernel
theorem d_BN_alarm_68 : decode b_BN_alarm 68 = .ok (.iload 5, 2) := by decide +kernel
theorem d_BN_alarm_70 : decode b_BN_alarm 70 = .ok (.invokevirtual 104, 3) := by decide +kernel
theorem d_BN_alarm_73 : decode b_BN_alarm 73 = .ok (.iconst 1, 1) := by decide +kernel
theorem d_BN_alarm_74 : decode b_BN_alarm 74 = .ok (.ireturn, 1) := by decide +kernel
theorem d_BN_setPoint_0 : decode b_BN_setPoint 0 = .ok (.aload_n 0, 1) := by decide +kernel
theorem d_BN_setPoint_1 : decode b_BN_setPoint 1 = .ok (.iload_n 1, 1) := by decide +kernel
theorem d_BN_setPoint_2 : decode b_BN_setPoint 2 = .ok (.invokevirtual 63, 3) := by decide +kernel
theorem d_BN_setPoint_5 : decode b_BN_setPoint 5 = .ok (.ifCond .eq 13, 3) := by decide +kernel
theorem d_BN_setPoint_8 : decode b_BN_setPoint 8 = .ok (.iload_n 2, 1) := by decide +kernel
theorem d_BN_setPoint_9 : decode b_BN_setPoint 9 = .ok (.iload_n 3, 1) := by decide +kernel
theorem d_BN_setPoint_10 : decode b_BN_setPoint 10 = .ok (.iload 4, 2) := by decide +kernel
theorem d_BN_setPoint_12 : decode b_BN_setPoint 12 = .ok (.invokestatic 69, 3) := by decide +kernel
theorem d_BN_setPoint_15 : decode b_BN_setPoint 15 = .ok (.ifCond .ne 5, 3) := by decide +kernel
theorem d_BN_setPoint_18 : decode b_BN_setPoint 18 = .ok (.iconst 0, 1) := by decide +kernel
theorem d_BN_setPoint_19 : decode b_BN_setPoint 19 = .ok (.ireturn, 1) := by decide +kernel
theorem d_BN_setPoint_20 : decode b_BN_setPoint 20 = .ok (.aload_n 0, 1) := by decide +kernel
theorem d_BN_setPoint_21 : decode b_BN_setPoint 21 = .ok (.getfield 11, 3) := by decide +kernel
theorem d_BN_setPoint_24 : decode b_BN_setPoint 24 = .ok (.iload_n 1, 1) := by decide +kernel
theorem d_BN_setPoint_25 : decode b_BN_setPoint 25 = .ok (.aaload, 1) := by decide +kernel
theorem d_BN_setPoint_26 : decode b_BN_setPoint 26 = .ok (.getfield 110, 3) := by decide +kernel
theorem d_BN_setPoint_29 : decode b_BN_setPoint 29 = .ok (.iload_n 2, 1) := by decide +kernel
theorem d_BN_setPoint_30 : decode b_BN_setPoint 30 = .ok (.iload_n 3, 1) := by decide +kernel
theorem d_BN_setPoint_31 : decode b_BN_setPoint 31 = .ok (.iload 4, 2) := by decide +kernel
theorem d_BN_setPoint_33 : decode b_BN_setPoint 33 = .ok (.invokevirtual 114, 3) := by decide +kernel
theorem d_BN_setPoint_36 : decode b_BN_setPoint 36 = .ok (.iconst 1, 1) := by decide +kernel
theorem d_BN_setPoint_37 : decode b_BN_setPoint 37 = .ok (.ireturn, 1) := by decide +kernel
theorem d_BN_seal_0 : decode b_BN_seal 0 = .ok (.aload_n 0, 1) := by decide +kernel
theorem d_BN_seal_1 : decode b_BN_seal 1 = .ok (.iload_n 1, 1) := by decide +kernel
theorem d_BN_seal_2 : decode b_BN_seal 2 = .ok (.invokevirtual 63, 3) := by decide +kernel
theorem d_BN_seal_5 : decode b_BN_seal 5 = .ok (.ifCond .eq 15, 3) := by decide +kernel
theorem d_BN_seal_8 : decode b_BN_seal 8 = .ok (.aload_n 0, 1) := by decide +kernel
theorem d_BN_seal_9 : decode b_BN_seal 9 = .ok (.getfield 11, 3) := by decide +kernel
theorem d_BN_seal_12 : decode b_BN_seal 12 = .ok (.iload_n 1, 1) := by decide +kernel
theorem d_BN_seal_13 : decode b_BN_seal 13 = .ok (.aaload, 1) := by decide +kernel
theorem d_BN_seal_14 : decode b_BN_seal 14 = .ok (.getfield 76, 3) := by decide +kernel
theorem d_BN_seal_17 : decode b_BN_seal 17 = .ok (.ifCond .ne 5, 3) := by decide +kernel
theorem d_BN_seal_20 : decode b_BN_seal 20 = .ok (.iconst 0, 1) := by decide +kernel
theorem d_BN_seal_21 : decode b_BN_seal 21 = .ok (.ireturn, 1) := by decide +kernel
theorem d_BN_seal_22 : decode b_BN_seal 22 = .ok (.aload_n 0, 1) := by decide +kernel
theorem d_BN_seal_23 : decode b_BN_seal 23 = .ok (.getfield 11, 3) := by decide +kernel
theorem d_BN_seal_26 : decode b_BN_seal 26 = .ok (.iload_n 1, 1) := by decide +kernel
theorem d_BN_seal_27 : decode b_BN_seal 27 = .ok (.aaload, 1) := by decide +kernel
theorem d_BN_seal_28 : decode b_BN_seal 28 = .ok (.iconst 2, 1) := by decide +kernel
theorem d_BN_seal_29 : decode b_BN_seal 29 = .ok (.putfield 55, 3) := by decide +kernel
theorem d_BN_seal_32 : decode b_BN_seal 32 = .ok (.iconst 1, 1) := by decide +kernel
theorem d_BN_seal_33 : decode b_BN_seal 33 = .ok (.ireturn, 1) := by decide +kernel
theorem d_BN_move_0 : decode b_BN_move 0 = .ok (.aload_n 0, 1) := by decide +kernel
theorem d_BN_move_1 : decode b_BN_move 1 = .ok (.iload_n 1, 1) := by decide +kernel
theorem d_BN_move_2 : decode b_BN_move 2 = .ok (.invokevirtual 117, 3) := by decide +kernel
theorem d_BN_move_5 : decode b_BN_move 5 = .ok (.ifCond .eq 10, 3) := by decide +kernel
theorem d_BN_move_8 : decode b_BN_move 8 = .ok (.iload_n 2, 1) := by decide +kernel
theorem d_BN_move_9 : decode b_BN_move 9 = .ok (.invokestatic 52, 3) := by decide +kernel
theorem d_BN_move_12 : decode b_BN_move 12 = .ok (.ifCond .ne 5, 3) := by decide +kernel
theorem d_BN_move_15 : decode b_BN_move 15 = .ok (.iconst 0, 1) := by decide +kernel
theorem d_BN_move_16 : decode b_BN_move 16 = .ok (.ireturn, 1) := by decide +kernel
theorem d_BN_move_17 : decode b_BN_move 17 = .ok (.aload_n 0, 1) := by decide +kernel
theorem d_BN_move_18 : decode b_BN_move 18 = .ok (.getfield 11, 3) := by decide +kernel
theorem d_BN_move_21 : decode b_BN_move 21 = .ok (.iload_n 1, 1) := by decide +kernel
theorem d_BN_move_22 : decode b_BN_move 22 = .ok (.aaload, 1) := by decide +kernel
theorem d_BN_move_23 : decode b_BN_move 23 = .ok (.iload_n 2, 1) := by decide +kernel
theorem d_BN_move_24 : decode b_BN_move 24 = .ok (.putfield 120, 3) := by decide +kernel
theorem d_BN_move_27 : decode b_BN_move 27 = .ok (.aload_n 0, 1) := by decide +kernel
theorem d_BN_move_28 : decode b_BN_move 28 = .ok (.getfield 11, 3) := by decide +kernel
theorem d_BN_move_31 : decode b_BN_move 31 = .ok (.iload_n 1, 1) := by decide +kernel
theorem d_BN_move_32 : decode b_BN_move 32 = .ok (.aaload, 1) := by decide +kernel
theorem d_BN_move_33 : decode b_BN_move 33 = .ok (.iconst 0, 1) := by decide +kernel
theorem d_BN_move_34 : decode b_BN_move 34 = .ok (.putfield 123, 3) := by decide +kernel
theorem d_BN_move_37 : decode b_BN_move 37 = .ok (.iconst 1, 1) := by decide +kernel
theorem d_BN_move_38 : decode b_BN_move 38 = .ok (.ireturn, 1) := by decide +kernel
theorem d_BN_patient_0 : decode b_BN_patient 0 = .ok (.iload_n 1, 1) := by decide +kernel
theorem d_BN_patient_1 : decode b_BN_patient 1 = .ok (.invokestatic 52, 3) := by decide +kernel
theorem d_BN_patient_4 : decode b_BN_patient 4 = .ok (.ifCond .eq 17, 3) := by decide +kernel
theorem d_BN_patient_7 : decode b_BN_patient 7 = .ok (.iload_n 2, 1) := by decide +kernel
theorem d_BN_patient_8 : decode b_BN_patient 8 = .ok (.ifCond .lt 13, 3) := by decide +kernel
theorem d_BN_patient_11 : decode b_BN_patient 11 = .ok (.aload_n 0, 1) := by decide +kernel
theorem d_BN_patient_12 : decode b_BN_patient 12 = .ok (.getfield 15, 3) := by decide +kernel
theorem d_BN_patient_15 : decode b_BN_patient 15 = .ok (.iload_n 1, 1) := by decide +kernel
theorem d_BN_patient_16 : decode b_BN_patient 16 = .ok (.iaload, 1) := by decide +kernel
theorem d_BN_patient_17 : decode b_BN_patient 17 = .ok (.iload_n 2, 1) := by decide +kernel
theorem d_BN_patient_18 : decode b_BN_patient 18 = .ok (.if_icmp .ne 5, 3) := by decide +kernel
theorem d_BN_patient_21 : decode b_BN_patient 21 = .ok (.iconst 0, 1) := by decide +kernel
theorem d_BN_patient_22 : decode b_BN_patient 22 = .ok (.ireturn, 1) := by decide +kernel
theorem d_BN_patient_23 : decode b_BN_patient 23 = .ok (.aload_n 0, 1) := by decide +kernel
theorem d_BN_patient_24 : decode b_BN_patient 24 = .ok (.getfield 15, 3) := by decide +kernel
theorem d_BN_patient_27 : decode b_BN_patient 27 = .ok (.iload_n 1, 1) := by decide +kernel
theorem d_BN_patient_28 : decode b_BN_patient 28 = .ok (.iload_n 2, 1) := by decide +kernel
theorem d_BN_patient_29 : decode b_BN_patient 29 = .ok (.iastore, 1) := by decide +kernel
theorem d_BN_patient_30 : decode b_BN_patient 30 = .ok (.iconst 0, 1) := by decide +kernel
theorem d_BN_patient_31 : decode b_BN_patient 31 = .ok (.istore_n 3, 1) := by decide +kernel
theorem d_BN_patient_32 : decode b_BN_patient 32 = .ok (.iload_n 3, 1) := by decide +kernel
theorem d_BN_patient_33 : decode b_BN_patient 33 = .ok (.bipush 8, 2) := by decide +kernel
theorem d_BN_patient_35 : decode b_BN_patient 35 = .ok (.if_icmp .ge 32, 3) := by decide +kernel
theorem d_BN_patient_38 : decode b_BN_patient 38 = .ok (.aload_n 0, 1) := by decide +kernel
theorem d_BN_patient_39 : decode b_BN_patient 39 = .ok (.getfield 11, 3) := by decide +kernel
theorem d_BN_patient_42 : decode b_BN_patient 42 = .ok (.iload_n 3, 1) := by decide +kernel
theorem d_BN_patient_43 : decode b_BN_patient 43 = .ok (.aaload, 1) := by decide +kernel
theorem d_BN_patient_44 : decode b_BN_patient 44 = .ok (.getfield 120, 3) := by decide +kernel
theorem d_BN_patient_47 : decode b_BN_patient 47 = .ok (.iload_n 1, 1) := by decide +kernel
theorem d_BN_patient_48 : decode b_BN_patient 48 = .ok (.if_icmp .ne 13, 3) := by decide +kernel
theorem d_BN_patient_51 : decode b_BN_patient 51 = .ok (.aload_n 0, 1) := by decide +kernel
theorem d_BN_patient_52 : decode b_BN_patient 52 = .ok (.getfield 11, 3) := by decide +kernel
theorem d_BN_patient_55 : decode b_BN_patient 55 = .ok (.iload_n 3, 1) := by decide +kernel
theorem d_BN_patient_56 : decode b_BN_patient 56 = .ok (.aaload, 1) := by decide +kernel
theorem d_BN_patient_57 : decode b_BN_patient 57 = .ok (.iconst 0, 1) := by decide +kernel
theorem d_BN_patient_58 : decode b_BN_patient 58 = .ok (.putfield 123, 3) := by decide +kernel
theorem d_BN_patient_61 : decode b_BN_patient 61 = .ok (.iinc 3 1, 3) := by decide +kernel
theorem d_BN_patient_64 : decode b_BN_patient 64 = .ok (.goto (-32), 3) := by decide +kernel
theorem d_BN_patient_67 : decode b_BN_patient 67 = .ok (.iconst 1, 1) := by decide +kernel
theorem d_BN_patient_68 : decode b_BN_patient 68 = .ok (.ireturn, 1) := by decide +kernel
theorem d_BN_confirm_0 : decode b_BN_confirm 0 = .ok (.aload_n 0, 1) := by decide +kernel
theorem d_BN_confirm_1 : decode b_BN_confirm 1 = .ok (.iload_n 1, 1) := by decide +kernel
theorem d_BN_confirm_2 : decode b_BN_confirm 2 = .ok (.invokevirtual 117, 3) := by decide +kernel
theorem d_BN_confirm_5 : decode b_BN_confirm 5 = .ok (.ifCond .ne 5, 3) := by decide +kernel
theorem d_BN_confirm_8 : decode b_BN_confirm 8 = .ok (.iconst 0, 1) := by decide +kernel
theorem d_BN_confirm_9 : decode b_BN_confirm 9 = .ok (.ireturn, 1) := by decide +kernel
theorem d_BN_confirm_10 : decode b_BN_confirm 10 = .ok (.aload_n 0, 1) := by decide +kernel
theorem d_BN_confirm_11 : decode b_BN_confirm 11 = .ok (.getfield 11, 3) := by decide +kernel
theorem d_BN_confirm_14 : decode b_BN_confirm 14 = .ok (.iload_n 1, 1) := by decide +kernel
theorem d_BN_confirm_15 : decode b_BN_confirm 15 = .ok (.aaload, 1) := by decide +kernel
theorem d_BN_confirm_16 : decode b_BN_confirm 16 = .ok (.astore_n 2, 1) := by decide +kernel
theorem d_BN_confirm_17 : decode b_BN_confirm 17 = .ok (.aload_n 2, 1) := by decide +kernel
theorem d_BN_confirm_18 : decode b_BN_confirm 18 = .ok (.getfield 120, 3) := by decide +kernel
theorem d_BN_confirm_21 : decode b_BN_confirm 21 = .ok (.invokestatic 52, 3) := by decide +kernel
theorem d_BN_confirm_24 : decode b_BN_confirm 24 = .ok (.ifCond .eq 15, 3) := by decide +kernel
theorem d_BN_confirm_27 : decode b_BN_confirm 27 = .ok (.aload_n 0, 1) := by decide +kernel
theorem d_BN_confirm_28 : decode b_BN_confirm 28 = .ok (.getfield 15, 3) := by decide +kernel
theorem d_BN_confirm_31 : decode b_BN_confirm 31 = .ok (.aload_n 2, 1) := by decide +kernel
theorem d_BN_confirm_32 : decode b_BN_confirm 32 = .ok (.getfield 120, 3) := by decide +kernel
theorem d_BN_confirm_35 : decode b_BN_confirm 35 = .ok (.iaload, 1) := by decide +kernel
theorem d_BN_confirm_36 : decode b_BN_confirm 36 = .ok (.goto 4, 3) := by decide +kernel
theorem d_BN_confirm_39 : decode b_BN_confirm 39 = .ok (.iconst 0, 1) := by decide +kernel
theorem d_BN_confirm_40 : decode b_BN_confirm 40 = .ok (.istore_n 3, 1) := by decide +kernel
theorem d_BN_confirm_41 : decode b_BN_confirm 41 = .ok (.iload_n 3, 1) := by decide +kernel
theorem d_BN_confirm_42 : decode b_BN_confirm 42 = .ok (.ifCond .eq 10, 3) := by decide +kernel
theorem d_BN_confirm_45 : decode b_BN_confirm 45 = .ok (.aload_n 2, 1) := by decide +kernel
theorem d_BN_confirm_46 : decode b_BN_confirm 46 = .ok (.getfield 123, 3) := by decide +kernel
theorem d_BN_confirm_49 : decode b_BN_confirm 49 = .ok (.ifCond .eq 5, 3) := by decide +kernel
theorem d_BN_confirm_52 : decode b_BN_confirm 52 = .ok (.iconst 0, 1) := by decide +kernel
theorem d_BN_confirm_53 : decode b_BN_confirm 53 = .ok (.ireturn, 1) := by decide +kernel
theorem d_BN_confirm_54 : decode b_BN_confirm 54 = .ok (.aload_n 2, 1) := by decide +kernel
theorem d_BN_confirm_55 : decode b_BN_confirm 55 = .ok (.iload_n 3, 1) := by decide +kernel
theorem d_BN_confirm_56 : decode b_BN_confirm 56 = .ok (.invokevirtual 126, 3) := by decide +kernel
theorem d_BN_confirm_59 : decode b_BN_confirm 59 = .ok (.iconst 1, 1) := by decide +kernel
theorem d_BN_confirm_60 : decode b_BN_confirm 60 = .ok (.ireturn, 1) := by decide +kernel
theorem d_BN_sample_0 : decode b_BN_sample 0 = .ok (.aload_n 0, 1) := by decide +kernel
theorem d_BN_sample_1 : decode b_BN_sample 1 = .ok (.iload_n 1, 1) := by decide +kernel
theorem d_BN_sample_2 : decode b_BN_sample 2 = .ok (.invokevirtual 117, 3) := by decide +kernel
theorem d_BN_sample_5 : decode b_BN_sample 5 = .ok (.ifCond .eq 28, 3) := by decide +kernel
theorem d_BN_sample_8 : decode b_BN_sample 8 = .ok (.aload_n 0, 1) := by decide +kernel
theorem d_BN_sample_9 : decode b_BN_sample 9 = .ok (.getfield 11, 3) := by decide +kernel
theorem d_BN_sample_12 : decode b_BN_sample 12 = .ok (.iload_n 1, 1) := by decide +kernel
theorem d_BN_sample_13 : decode b_BN_sample 13 = .ok (.aaload, 1) := by decide +kernel
theorem d_BN_sample_14 : decode b_BN_sample 14 = .ok (.getfield 123, 3) := by decide +kernel
theorem d_BN_sample_17 : decode b_BN_sample 17 = .ok (.ifCond .eq 16, 3) := by decide +kernel
theorem d_BN_sample_20 : decode b_BN_sample 20 = .ok (.aload_n 0, 1) := by decide +kernel
theorem d_BN_sample_21 : decode b_BN_sample 21 = .ok (.getfield 11, 3) := by decide +kernel
theorem d_BN_sample_24 : decode b_BN_sample 24 = .ok (.iload_n 1, 1) := by decide +kernel
theorem d_BN_sample_25 : decode b_BN_sample 25 = .ok (.aaload, 1) := by decide +kernel
theorem d_BN_sample_26 : decode b_BN_sample 26 = .ok (.iload_n 2, 1) := by decide +kernel
theorem d_BN_sample_27 : decode b_BN_sample 27 = .ok (.invokevirtual 91, 3) := by decide +kernel
theorem d_BN_sample_30 : decode b_BN_sample 30 = .ok (.ifCond .ne 5, 3) := by decide +kernel
theorem d_BN_sample_33 : decode b_BN_sample 33 = .ok (.iconst 0, 1) := by decide +kernel
theorem d_BN_sample_34 : decode b_BN_sample 34 = .ok (.ireturn, 1) := by decide +kernel
theorem d_BN_sample_35 : decode b_BN_sample 35 = .ok (.aload_n 0, 1) := by decide +kernel
theorem d_BN_sample_36 : decode b_BN_sample 36 = .ok (.getfield 11, 3) := by decide +kernel
theorem d_BN_sample_39 : decode b_BN_sample 39 = .ok (.iload_n 1, 1) := by decide +kernel
theorem d_BN_sample_40 : decode b_BN_sample 40 = .ok (.aaload, 1) := by decide +kernel
theorem d_BN_sample_41 : decode b_BN_sample 41 = .ok (.getfield 82, 3) := by decide +kernel
theorem d_BN_sample_44 : decode b_BN_sample 44 = .ok (.iload_n 2, 1) := by decide +kernel
theorem d_BN_sample_45 : decode b_BN_sample 45 = .ok (.aaload, 1) := by decide +kernel
theorem d_BN_sample_46 : decode b_BN_sample 46 = .ok (.astore 4, 2) := by decide +kernel
theorem d_BN_sample_48 : decode b_BN_sample 48 = .ok (.aload 4, 2) := by decide +kernel
theorem d_BN_sample_50 : decode b_BN_sample 50 = .ok (.getfield 129, 3) := by decide +kernel
theorem d_BN_sample_53 : decode b_BN_sample 53 = .ok (.iload_n 3, 1) := by decide +kernel
theorem d_BN_sample_54 : decode b_BN_sample 54 = .ok (.invokevirtual 133, 3) := by decide +kernel
theorem d_BN_sample_57 : decode b_BN_sample 57 = .ok (.ifCond .ne 5, 3) := by decide +kernel
theorem d_BN_sample_60 : decode b_BN_sample 60 = .ok (.iconst 0, 1) := by decide +kernel
theorem d_BN_sample_61 : decode b_BN_sample 61 = .ok (.ireturn, 1) := by decide +kernel
theorem d_BN_sample_62 : decode b_BN_sample 62 = .ok (.aload 4, 2) := by decide +kernel
theorem d_BN_sample_64 : decode b_BN_sample 64 = .ok (.iload_n 3, 1) := by decide +kernel
theorem d_BN_sample_65 : decode b_BN_sample 65 = .ok (.aload_n 0, 1) := by decide +kernel
theorem d_BN_sample_66 : decode b_BN_sample 66 = .ok (.getfield 138, 3) := by decide +kernel
theorem d_BN_sample_69 : decode b_BN_sample 69 = .ok (.invokevirtual 141, 3) := by decide +kernel
theorem d_BN_sample_72 : decode b_BN_sample 72 = .ok (.aload_n 0, 1) := by decide +kernel
theorem d_BN_sample_73 : decode b_BN_sample 73 = .ok (.iload_n 1, 1) := by decide +kernel
theorem d_BN_sample_74 : decode b_BN_sample 74 = .ok (.iload_n 2, 1) := by decide +kernel
theorem d_BN_sample_75 : decode b_BN_sample 75 = .ok (.invokevirtual 145, 3) := by decide +kernel
theorem d_BN_sample_78 : decode b_BN_sample 78 = .ok (.aload_n 0, 1) := by decide +kernel
theorem d_BN_sample_79 : decode b_BN_sample 79 = .ok (.invokevirtual 148, 3) := by decide +kernel
theorem d_BN_sample_82 : decode b_BN_sample 82 = .ok (.iconst 1, 1) := by decide +kernel
theorem d_BN_sample_83 : decode b_BN_sample 83 = .ok (.ireturn, 1) := by decide +kernel
theorem d_BN_tick_0 : decode b_BN_tick 0 = .ok (.iload_n 1, 1) := by decide +kernel
theorem d_BN_tick_1 : decode b_BN_tick 1 = .ok (.iconst 1, 1) := by decide +kernel
theorem d_BN_tick_2 : decode b_BN_tick 2 = .ok (.if_icmp .lt 21, 3) := by decide +kernel
theorem d_BN_tick_5 : decode b_BN_tick 5 = .ok (.iload_n 1, 1) := by decide +kernel
theorem d_BN_tick_6 : decode b_BN_tick 6 = .ok (.sipush 10000, 3) := by decide +kernel
theorem d_BN_tick_9 : decode b_BN_tick 9 = .ok (.if_icmp .gt 14, 3) := by decide +kernel
theorem d_BN_tick_12 : decode b_BN_tick 12 = .ok (.aload_n 0, 1) := by decide +kernel
theorem d_BN_tick_13 : decode b_BN_tick 13 = .ok (.getfield 138, 3) := by decide +kernel
theorem d_BN_tick_16 : decode b_BN_tick 16 = .ok (.ldc 151, 2) := by decide +kernel
theorem d_BN_tick_18 : decode b_BN_tick 18 = .ok (.iload_n 1, 1) := by decide +kernel
theorem d_BN_tick_19 : decode b_BN_tick 19 = .ok (.isub, 1) := by decide +kernel
theorem d_BN_tick_20 : decode b_BN_tick 20 = .ok (.if_icmp .le 11, 3) := by decide +kernel
theorem d_BN_tick_23 : decode b_BN_tick 23 = .ok (.new 73, 3) := by decide +kernel
theorem d_BN_tick_26 : decode b_BN_tick 26 = .ok (.dup, 1) := by decide +kernel
theorem d_BN_tick_27 : decode b_BN_tick 27 = .ok (.invokespecial 75, 3) := by decide +kernel
theorem d_BN_tick_30 : decode b_BN_tick 30 = .ok (.athrow, 1) := by decide +kernel
theorem d_BN_tick_31 : decode b_BN_tick 31 = .ok (.aload_n 0, 1) := by decide +kernel
theorem d_BN_tick_32 : decode b_BN_tick 32 = .ok (.getfield 34, 3) := by decide +kernel
theorem d_BN_tick_35 : decode b_BN_tick 35 = .ok (.getfield 152, 3) := by decide +kernel
theorem d_BN_tick_38 : decode b_BN_tick 38 = .ok (.istore_n 2, 1) := by decide +kernel
theorem d_BN_tick_39 : decode b_BN_tick 39 = .ok (.aload_n 0, 1) := by decide +kernel
theorem d_BN_tick_40 : decode b_BN_tick 40 = .ok (.dup, 1) := by decide +kernel
theorem d_BN_tick_41 : decode b_BN_tick 41 = .ok (.getfield 138, 3) := by decide +kernel
theorem d_BN_tick_44 : decode b_BN_tick 44 = .ok (.iload_n 1, 1) := by decide +kernel
theorem d_BN_tick_45 : decode b_BN_tick 45 = .ok (.iadd, 1) := by decide +kernel
theorem d_BN_tick_46 : decode b_BN_tick 46 = .ok (.putfield 138, 3) := by decide +kernel
theorem d_BN_tick_49 : decode b_BN_tick 49 = .ok (.aload_n 0, 1) := by decide +kernel
theorem d_BN_tick_50 : decode b_BN_tick 50 = .ok (.invokevirtual 155, 3) := by decide +kernel
theorem d_BN_tick_53 : decode b_BN_tick 53 = .ok (.aload_n 0, 1) := by decide +kernel
theorem d_BN_tick_54 : decode b_BN_tick 54 = .ok (.invokevirtual 148, 3) := by decide +kernel
theorem d_BN_tick_57 : decode b_BN_tick 57 = .ok (.aload_n 0, 1) := by decide +kernel
theorem d_BN_tick_58 : decode b_BN_tick 58 = .ok (.invokevirtual 158, 3) := by decide +kernel
theorem d_BN_tick_61 : decode b_BN_tick 61 = .ok (.aload_n 0, 1) := by decide +kernel
theorem d_BN_tick_62 : decode b_BN_tick 62 = .ok (.getfield 34, 3) := by decide +kernel
theorem d_BN_tick_65 : decode b_BN_tick 65 = .ok (.getfield 152, 3) := by decide +kernel
theorem d_BN_tick_68 : decode b_BN_tick 68 = .ok (.iload_n 2, 1) := by decide +kernel
theorem d_BN_tick_69 : decode b_BN_tick 69 = .ok (.isub, 1) := by decide +kernel
theorem d_BN_tick_70 : decode b_BN_tick 70 = .ok (.ireturn, 1) := by decide +kernel
theorem d_BN_repeatValues_0 : decode b_BN_repeatValues 0 = .ok (.iconst 0, 1) := by decide +kernel
theorem d_BN_repeatValues_1 : decode b_BN_repeatValues 1 = .ok (.istore_n 1, 1) := by decide +kernel
theorem d_BN_repeatValues_2 : decode b_BN_repeatValues 2 = .ok (.iload_n 1, 1) := by decide +kernel
theorem d_BN_repeatValues_3 : decode b_BN_repeatValues 3 = .ok (.bipush 8, 2) := by decide +kernel
theorem d_BN_repeatValues_5 : decode b_BN_repeatValues 5 = .ok (.if_icmp .ge 82, 3) := by decide +kernel
theorem d_BN_repeatValues_8 : decode b_BN_repeatValues 8 = .ok (.iconst 0, 1) := by decide +kernel
theorem d_BN_repeatValues_9 : decode b_BN_repeatValues 9 = .ok (.istore_n 2, 1) := by decide +kernel
theorem d_BN_repeatValues_10 : decode b_BN_repeatValues 10 = .ok (.iload_n 2, 1) := by decide +kernel
theorem d_BN_repeatValues_11 : decode b_BN_repeatValues 11 = .ok (.aload_n 0, 1) := by decide +kernel
theorem d_BN_repeatValues_12 : decode b_BN_repeatValues 12 = .ok (.getfield 11, 3) := by decide +kernel
theorem d_BN_repeatValues_15 : decode b_BN_repeatValues 15 = .ok (.iload_n 1, 1) := by decide +kernel
theorem d_BN_repeatValues_16 : decode b_BN_repeatValues 16 = .ok (.aaload, 1) := by decide +kernel
theorem d_BN_repeatValues_17 : decode b_BN_repeatValues 17 = .ok (.getfield 76, 3) := by decide +kernel
theorem d_BN_repeatValues_20 : decode b_BN_repeatValues 20 = .ok (.if_icmp .ge 61, 3) := by decide +kernel
theorem d_BN_repeatValues_23 : decode b_BN_repeatValues 23 = .ok (.aload_n 0, 1) := by decide +kernel
theorem d_BN_repeatValues_24 : decode b_BN_repeatValues 24 = .ok (.getfield 11, 3) := by decide +kernel
theorem d_BN_repeatValues_27 : decode b_BN_repeatValues 27 = .ok (.iload_n 1, 1) := by decide +kernel
theorem d_BN_repeatValues_28 : decode b_BN_repeatValues 28 = .ok (.aaload, 1) := by decide +kernel
theorem d_BN_repeatValues_29 : decode b_BN_repeatValues 29 = .ok (.getfield 82, 3) := by decide +kernel
theorem d_BN_repeatValues_32 : decode b_BN_repeatValues 32 = .ok (.iload_n 2, 1) := by decide +kernel
theorem d_BN_repeatValues_33 : decode b_BN_repeatValues 33 = .ok (.aaload, 1) := by decide +kernel
theorem d_BN_repeatValues_34 : decode b_BN_repeatValues 34 = .ok (.astore_n 3, 1) := by decide +kernel
theorem d_BN_repeatValues_35 : decode b_BN_repeatValues 35 = .ok (.aload_n 0, 1) := by decide +kernel
theorem d_BN_repeatValues_36 : decode b_BN_repeatValues 36 = .ok (.getfield 11, 3) := by decide +kernel
theorem d_BN_repeatValues_39 : decode b_BN_repeatValues 39 = .ok (.iload_n 1, 1) := by decide +kernel
theorem d_BN_repeatValues_40 : decode b_BN_repeatValues 40 = .ok (.aaload, 1) := by decide +kernel
theorem d_BN_repeatValues_41 : decode b_BN_repeatValues 41 = .ok (.getfield 123, 3) := by decide +kernel
theorem d_BN_repeatValues_44 : decode b_BN_repeatValues 44 = .ok (.ifCond .eq 31, 3) := by decide +kernel
theorem d_BN_repeatValues_47 : decode b_BN_repeatValues 47 = .ok (.aload_n 3, 1) := by decide +kernel
theorem d_BN_repeatValues_48 : decode b_BN_repeatValues 48 = .ok (.getfield 161, 3) := by decide +kernel
theorem d_BN_repeatValues_51 : decode b_BN_repeatValues 51 = .ok (.ifCond .eq 24, 3) := by decide +kernel
theorem d_BN_repeatValues_54 : decode b_BN_repeatValues 54 = .ok (.aload_n 0, 1) := by decide +kernel
theorem d_BN_repeatValues_55 : decode b_BN_repeatValues 55 = .ok (.getfield 138, 3) := by decide +kernel
theorem d_BN_repeatValues_58 : decode b_BN_repeatValues 58 = .ok (.aload_n 3, 1) := by decide +kernel
theorem d_BN_repeatValues_59 : decode b_BN_repeatValues 59 = .ok (.getfield 165, 3) := by decide +kernel
theorem d_BN_repeatValues_62 : decode b_BN_repeatValues 62 = .ok (.isub, 1) := by decide +kernel
theorem d_BN_repeatValues_63 : decode b_BN_repeatValues 63 = .ok (.sipush 1000, 3) := by decide +kernel
theorem d_BN_repeatValues_66 : decode b_BN_repeatValues 66 = .ok (.if_icmp .lt 9, 3) := by decide +kernel
theorem d_BN_repeatValues_69 : decode b_BN_repeatValues 69 = .ok (.aload_n 0, 1) := by decide +kernel
theorem d_BN_repeatValues_70 : decode b_BN_repeatValues 70 = .ok (.iload_n 1, 1) := by decide +kernel
theorem d_BN_repeatValues_71 : decode b_BN_repeatValues 71 = .ok (.iload_n 2, 1) := by decide +kernel
theorem d_BN_repeatValues_72 : decode b_BN_repeatValues 72 = .ok (.invokevirtual 145, 3) := by decide +kernel
theorem d_BN_repeatValues_75 : decode b_BN_repeatValues 75 = .ok (.iinc 2 1, 3) := by decide +kernel
theorem d_BN_repeatValues_78 : decode b_BN_repeatValues 78 = .ok (.goto (-68), 3) := by decide +kernel
theorem d_BN_repeatValues_81 : decode b_BN_repeatValues 81 = .ok (.iinc 1 1, 3) := by decide +kernel
theorem d_BN_repeatValues_84 : decode b_BN_repeatValues 84 = .ok (.goto (-82), 3) := by decide +kernel
theorem d_BN_repeatValues_87 : decode b_BN_repeatValues 87 = .ok (.return_, 1) := by decide +kernel
theorem d_BN_settleAlarms_0 : decode b_BN_settleAlarms 0 = .ok (.iconst 0, 1) := by decide +kernel
theorem d_BN_settleAlarms_1 : decode b_BN_settleAlarms 1 = .ok (.istore_n 1, 1) := by decide +kernel
theorem d_BN_settleAlarms_2 : decode b_BN_settleAlarms 2 = .ok (.iload_n 1, 1) := by decide +kernel
theorem d_BN_settleAlarms_3 : decode b_BN_settleAlarms 3 = .ok (.bipush 8, 2) := by decide +kernel
theorem d_BN_settleAlarms_5 : decode b_BN_settleAlarms 5 = .ok (.if_icmp .ge 75, 3) := by decide +kernel
theorem d_BN_settleAlarms_8 : decode b_BN_settleAlarms 8 = .ok (.iconst 0, 1) := by decide +kernel
theorem d_BN_settleAlarms_9 : decode b_BN_settleAlarms 9 = .ok (.istore_n 2, 1) := by decide +kernel
theorem d_BN_settleAlarms_10 : decode b_BN_settleAlarms 10 = .ok (.iload_n 2, 1) := by decide +kernel
theorem d_BN_settleAlarms_11 : decode b_BN_settleAlarms 11 = .ok (.aload_n 0, 1) := by decide +kernel
theorem d_BN_settleAlarms_12 : decode b_BN_settleAlarms 12 = .ok (.getfield 11, 3) := by decide +kernel
theorem d_BN_settleAlarms_15 : decode b_BN_settleAlarms 15 = .ok (.iload_n 1, 1) := by decide +kernel
theorem d_BN_settleAlarms_16 : decode b_BN_settleAlarms 16 = .ok (.aaload, 1) := by decide +kernel
theorem d_BN_settleAlarms_17 : decode b_BN_settleAlarms 17 = .ok (.getfield 76, 3) := by decide +kernel
theorem d_BN_settleAlarms_20 : decode b_BN_settleAlarms 20 = .ok (.if_icmp .ge 54, 3) := by decide +kernel
theorem d_BN_settleAlarms_23 : decode b_BN_settleAlarms 23 = .ok (.aload_n 0, 1) := by decide +kernel
theorem d_BN_settleAlarms_24 : decode b_BN_settleAlarms 24 = .ok (.getfield 11, 3) := by decide +kernel
theorem d_BN_settleAlarms_27 : decode b_BN_settleAlarms 27 = .ok (.iload_n 1, 1) := by decide +kernel
theorem d_BN_settleAlarms_28 : decode b_BN_settleAlarms 28 = .ok (.aaload, 1) := by decide +kernel
theorem d_BN_settleAlarms_29 : decode b_BN_settleAlarms 29 = .ok (.getfield 82, 3) := by decide +kernel
theorem d_BN_settleAlarms_32 : decode b_BN_settleAlarms 32 = .ok (.iload_n 2, 1) := by decide +kernel
theorem d_BN_settleAlarms_33 : decode b_BN_settleAlarms 33 = .ok (.aaload, 1) := by decide +kernel
theorem d_BN_settleAlarms_34 : decode b_BN_settleAlarms 34 = .ok (.getfield 100, 3) := by decide +kernel
theorem d_BN_settleAlarms_37 : decode b_BN_settleAlarms 37 = .ok (.astore_n 3, 1) := by decide +kernel
theorem d_BN_settleAlarms_38 : decode b_BN_settleAlarms 38 = .ok (.aload_n 3, 1) := by decide +kernel
theorem d_BN_settleAlarms_39 : decode b_BN_settleAlarms 39 = .ok (.aload_n 0, 1) := by decide +kernel
theorem d_BN_settleAlarms_40 : decode b_BN_settleAlarms 40 = .ok (.getfield 138, 3) := by decide +kernel
theorem d_BN_settleAlarms_43 : decode b_BN_settleAlarms 43 = .ok (.invokevirtual 168, 3) := by decide +kernel
theorem d_BN_settleAlarms_46 : decode b_BN_settleAlarms 46 = .ok (.ifCond .eq 22, 3) := by decide +kernel
theorem d_BN_settleAlarms_49 : decode b_BN_settleAlarms 49 = .ok (.aload_n 0, 1) := by decide +kernel
theorem d_BN_settleAlarms_50 : decode b_BN_settleAlarms 50 = .ok (.iconst 2, 1) := by decide +kernel
theorem d_BN_settleAlarms_51 : decode b_BN_settleAlarms 51 = .ok (.iload_n 1, 1) := by decide +kernel
theorem d_BN_settleAlarms_52 : decode b_BN_settleAlarms 52 = .ok (.iload_n 2, 1) := by decide +kernel
theorem d_BN_settleAlarms_53 : decode b_BN_settleAlarms 53 = .ok (.aload_n 3, 1) := by decide +kernel
theorem d_BN_settleAlarms_54 : decode b_BN_settleAlarms 54 = .ok (.getfield 171, 3) := by decide +kernel
theorem d_BN_settleAlarms_57 : decode b_BN_settleAlarms 57 = .ok (.ifCond .eq 7, 3) := by decide +kernel
theorem d_BN_settleAlarms_60 : decode b_BN_settleAlarms 60 = .ok (.iconst 1, 1) := by decide +kernel
theorem d_BN_settleAlarms_61 : decode b_BN_settleAlarms 61 = .ok (.goto 4, 3) := by decide +kernel
theorem d_BN_settleAlarms_64 : decode b_BN_settleAlarms 64 = .ok (.iconst 0, 1) := by decide +kernel
theorem d_BN_settleAlarms_65 : decode b_BN_settleAlarms 65 = .ok (.invokevirtual 174, 3) := by decide +kernel
theorem d_BN_settleAlarms_68 : decode b_BN_settleAlarms 68 = .ok (.iinc 2 1, 3) := by decide +kernel
theorem d_BN_settleAlarms_71 : decode b_BN_settleAlarms 71 = .ok (.goto (-61), 3) := by decide +kernel
theorem d_BN_settleAlarms_74 : decode b_BN_settleAlarms 74 = .ok (.iinc 1 1, 3) := by decide +kernel
theorem d_BN_settleAlarms_77 : decode b_BN_settleAlarms 77 = .ok (.goto (-75), 3) := by decide +kernel
theorem d_BN_settleAlarms_80 : decode b_BN_settleAlarms 80 = .ok (.return_, 1) := by decide +kernel
theorem d_BN_repeatSounds_0 : decode b_BN_repeatSounds 0 = .ok (.iconst 0, 1) := by decide +kernel
theorem d_BN_repeatSounds_1 : decode b_BN_repeatSounds 1 = .ok (.istore_n 1, 1) := by decide +kernel
theorem d_BN_repeatSounds_2 : decode b_BN_repeatSounds 2 = .ok (.iload_n 1, 1) := by decide +kernel
theorem d_BN_repeatSounds_3 : decode b_BN_repeatSounds 3 = .ok (.bipush 8, 2) := by decide +kernel
theorem d_BN_repeatSounds_5 : decode b_BN_repeatSounds 5 = .ok (.if_icmp .ge 46, 3) := by decide +kernel
theorem d_BN_repeatSounds_8 : decode b_BN_repeatSounds 8 = .ok (.aload_n 0, 1) := by decide +kernel
theorem d_BN_repeatSounds_9 : decode b_BN_repeatSounds 9 = .ok (.getfield 11, 3) := by decide +kernel
theorem d_BN_repeatSounds_12 : decode b_BN_repeatSounds 12 = .ok (.iload_n 1, 1) := by decide +kernel
theorem d_BN_repeatSounds_13 : decode b_BN_repeatSounds 13 = .ok (.aaload, 1) := by decide +kernel
theorem d_BN_repeatSounds_14 : decode b_BN_repeatSounds 14 = .ok (.invokevirtual 177, 3) := by decide +kernel
theorem d_BN_repeatSounds_17 : decode b_BN_repeatSounds 17 = .ok (.ifCond .eq 28, 3) := by decide +kernel
theorem d_BN_repeatSounds_20 : decode b_BN_repeatSounds 20 = .ok (.aload_n 0, 1) := by decide +kernel
theorem d_BN_repeatSounds_21 : decode b_BN_repeatSounds 21 = .ok (.getfield 138, 3) := by decide +kernel
theorem d_BN_repeatSounds_24 : decode b_BN_repeatSounds 24 = .ok (.aload_n 0, 1) := by decide +kernel
theorem d_BN_repeatSounds_25 : decode b_BN_repeatSounds 25 = .ok (.getfield 11, 3) := by decide +kernel
theorem d_BN_repeatSounds_28 : decode b_BN_repeatSounds 28 = .ok (.iload_n 1, 1) := by decide +kernel
theorem d_BN_repeatSounds_29 : decode b_BN_repeatSounds 29 = .ok (.aaload, 1) := by decide +kernel
theorem d_BN_repeatSounds_30 : decode b_BN_repeatSounds 30 = .ok (.getfield 181, 3) := by decide +kernel
theorem d_BN_repeatSounds_33 : decode b_BN_repeatSounds 33 = .ok (.isub, 1) := by decide +kernel
theorem d_BN_repeatSounds_34 : decode b_BN_repeatSounds 34 = .ok (.sipush 1000, 3) := by decide +kernel
theorem d_BN_repeatSounds_37 : decode b_BN_repeatSounds 37 = .ok (.if_icmp .lt 8, 3) := by decide +kernel
theorem d_BN_repeatSounds_40 : decode b_BN_repeatSounds 40 = .ok (.aload_n 0, 1) := by decide +kernel
theorem d_BN_repeatSounds_41 : decode b_BN_repeatSounds 41 = .ok (.iload_n 1, 1) := by decide +kernel
theorem d_BN_repeatSounds_42 : decode b_BN_repeatSounds 42 = .ok (.invokevirtual 184, 3) := by decide +kernel
theorem d_BN_repeatSounds_45 : decode b_BN_repeatSounds 45 = .ok (.iinc 1 1, 3) := by decide +kernel
theorem d_BN_repeatSounds_48 : decode b_BN_repeatSounds 48 = .ok (.goto (-46), 3) := by decide +kernel
theorem d_BN_repeatSounds_51 : decode b_BN_repeatSounds 51 = .ok (.return_, 1) := by decide +kernel
theorem d_BN_carry_0 : decode b_BN_carry 0 = .ok (.aload_n 0, 1) := by decide +kernel
theorem d_BN_carry_1 : decode b_BN_carry 1 = .ok (.getfield 34, 3) := by decide +kernel
theorem d_BN_carry_4 : decode b_BN_carry 4 = .ok (.iload_n 1, 1) := by decide +kernel
theorem d_BN_carry_5 : decode b_BN_carry 5 = .ok (.invokevirtual 187, 3) := by decide +kernel
theorem d_BN_carry_8 : decode b_BN_carry 8 = .ok (.istore_n 3, 1) := by decide +kernel
theorem d_BN_carry_9 : decode b_BN_carry 9 = .ok (.iload_n 3, 1) := by decide +kernel
theorem d_BN_carry_10 : decode b_BN_carry 10 = .ok (.iconst (-1), 1) := by decide +kernel
theorem d_BN_carry_11 : decode b_BN_carry 11 = .ok (.if_icmp .ne 5, 3) := by decide +kernel
theorem d_BN_carry_14 : decode b_BN_carry 14 = .ok (.iconst 0, 1) := by decide +kernel
theorem d_BN_carry_15 : decode b_BN_carry 15 = .ok (.ireturn, 1) := by decide +kernel
theorem d_BN_carry_16 : decode b_BN_carry 16 = .ok (.aload_n 0, 1) := by decide +kernel
theorem d_BN_carry_17 : decode b_BN_carry 17 = .ok (.getfield 41, 3) := by decide +kernel
theorem d_BN_carry_20 : decode b_BN_carry 20 = .ok (.aload_n 0, 1) := by decide +kernel
theorem d_BN_carry_21 : decode b_BN_carry 21 = .ok (.getfield 34, 3) := by decide +kernel
theorem d_BN_carry_24 : decode b_BN_carry 24 = .ok (.getfield 191, 3) := by decide +kernel
theorem d_BN_carry_27 : decode b_BN_carry 27 = .ok (.iload_n 3, 1) := by decide +kernel
theorem d_BN_carry_28 : decode b_BN_carry 28 = .ok (.aaload, 1) := by decide +kernel
theorem d_BN_carry_29 : decode b_BN_carry 29 = .ok (.invokevirtual 195, 3) := by decide +kernel
theorem d_BN_carry_32 : decode b_BN_carry 32 = .ok (.iload_n 2, 1) := by decide +kernel
theorem d_BN_carry_33 : decode b_BN_carry 33 = .ok (.ifCond .ne 11, 3) := by decide +kernel
theorem d_BN_carry_36 : decode b_BN_carry 36 = .ok (.aload_n 0, 1) := by decide +kernel
theorem d_BN_carry_37 : decode b_BN_carry 37 = .ok (.getfield 34, 3) := by decide +kernel
theorem d_BN_carry_40 : decode b_BN_carry 40 = .ok (.iload_n 3, 1) := by decide +kernel
theorem d_BN_carry_41 : decode b_BN_carry 41 = .ok (.invokevirtual 199, 3) := by decide +kernel
theorem d_BN_carry_44 : decode b_BN_carry 44 = .ok (.aload_n 0, 1) := by decide +kernel
theorem d_BN_carry_45 : decode b_BN_carry 45 = .ok (.invokevirtual 202, 3) := by decide +kernel
theorem d_BN_carry_48 : decode b_BN_carry 48 = .ok (.aload_n 0, 1) := by decide +kernel
theorem d_BN_carry_49 : decode b_BN_carry 49 = .ok (.invokevirtual 148, 3) := by decide +kernel
theorem d_BN_carry_52 : decode b_BN_carry 52 = .ok (.iconst 1, 1) := by decide +kernel
theorem d_BN_carry_53 : decode b_BN_carry 53 = .ok (.ireturn, 1) := by decide +kernel
theorem d_BN_drop_0 : decode b_BN_drop 0 = .ok (.aload_n 0, 1) := by decide +kernel
theorem d_BN_drop_1 : decode b_BN_drop 1 = .ok (.getfield 34, 3) := by decide +kernel
theorem d_BN_drop_4 : decode b_BN_drop 4 = .ok (.iload_n 1, 1) := by decide +kernel
theorem d_BN_drop_5 : decode b_BN_drop 5 = .ok (.invokevirtual 187, 3) := by decide +kernel
theorem d_BN_drop_8 : decode b_BN_drop 8 = .ok (.istore_n 2, 1) := by decide +kernel
theorem d_BN_drop_9 : decode b_BN_drop 9 = .ok (.iload_n 2, 1) := by decide +kernel
theorem d_BN_drop_10 : decode b_BN_drop 10 = .ok (.iconst (-1), 1) := by decide +kernel
theorem d_BN_drop_11 : decode b_BN_drop 11 = .ok (.if_icmp .ne 5, 3) := by decide +kernel
theorem d_BN_drop_14 : decode b_BN_drop 14 = .ok (.iconst 0, 1) := by decide +kernel
theorem d_BN_drop_15 : decode b_BN_drop 15 = .ok (.ireturn, 1) := by decide +kernel
theorem d_BN_drop_16 : decode b_BN_drop 16 = .ok (.aload_n 0, 1) := by decide +kernel
theorem d_BN_drop_17 : decode b_BN_drop 17 = .ok (.getfield 34, 3) := by decide +kernel
theorem d_BN_drop_20 : decode b_BN_drop 20 = .ok (.iload_n 2, 1) := by decide +kernel
theorem d_BN_drop_21 : decode b_BN_drop 21 = .ok (.invokevirtual 199, 3) := by decide +kernel
theorem d_BN_drop_24 : decode b_BN_drop 24 = .ok (.iconst 1, 1) := by decide +kernel
theorem d_BN_drop_25 : decode b_BN_drop 25 = .ok (.ireturn, 1) := by decide +kernel
theorem d_BN_message_0 : decode b_BN_message 0 = .ok (.aload_n 0, 1) := by decide +kernel
theorem d_BN_message_1 : decode b_BN_message 1 = .ok (.getfield 34, 3) := by decide +kernel
theorem d_BN_message_4 : decode b_BN_message 4 = .ok (.iload_n 1, 1) := by decide +kernel
theorem d_BN_message_5 : decode b_BN_message 5 = .ok (.invokevirtual 187, 3) := by decide +kernel
theorem d_BN_message_8 : decode b_BN_message 8 = .ok (.istore_n 3, 1) := by decide +kernel
theorem d_BN_message_9 : decode b_BN_message 9 = .ok (.iload_n 3, 1) := by decide +kernel
theorem d_BN_message_10 : decode b_BN_message 10 = .ok (.iconst (-1), 1) := by decide +kernel
theorem d_BN_message_11 : decode b_BN_message 11 = .ok (.if_icmp .ne 11, 3) := by decide +kernel
theorem d_BN_message_14 : decode b_BN_message 14 = .ok (.new 205, 3) := by decide +kernel
theorem d_BN_message_17 : decode b_BN_message 17 = .ok (.dup, 1) := by decide +kernel
theorem d_BN_message_18 : decode b_BN_message 18 = .ok (.invokespecial 207, 3) := by decide +kernel
theorem d_BN_message_21 : decode b_BN_message 21 = .ok (.athrow, 1) := by decide +kernel
theorem d_BN_message_22 : decode b_BN_message 22 = .ok (.iload_n 2, 1) := by decide +kernel
theorem d_BN_message_23 : decode b_BN_message 23 = .ok (.ifCond .lt 8, 3) := by decide +kernel
theorem d_BN_message_26 : decode b_BN_message 26 = .ok (.iload_n 2, 1) := by decide +kernel
theorem d_BN_message_27 : decode b_BN_message 27 = .ok (.iconst 5, 1) := by decide +kernel
theorem d_BN_message_28 : decode b_BN_message 28 = .ok (.if_icmp .lt 11, 3) := by decide +kernel
theorem d_BN_message_31 : decode b_BN_message 31 = .ok (.new 208, 3) := by decide +kernel
theorem d_BN_message_34 : decode b_BN_message 34 = .ok (.dup, 1) := by decide +kernel
theorem d_BN_message_35 : decode b_BN_message 35 = .ok (.invokespecial 210, 3) := by decide +kernel
theorem d_BN_message_38 : decode b_BN_message 38 = .ok (.athrow, 1) := by decide +kernel
theorem d_BN_message_39 : decode b_BN_message 39 = .ok (.aload_n 0, 1) := by decide +kernel
theorem d_BN_message_40 : decode b_BN_message 40 = .ok (.getfield 34, 3) := by decide +kernel
theorem d_BN_message_43 : decode b_BN_message 43 = .ok (.getfield 191, 3) := by decide +kernel
theorem d_BN_message_46 : decode b_BN_message 46 = .ok (.iload_n 3, 1) := by decide +kernel
theorem d_BN_message_47 : decode b_BN_message 47 = .ok (.aaload, 1) := by decide +kernel
theorem d_BN_message_48 : decode b_BN_message 48 = .ok (.iload_n 2, 1) := by decide +kernel
theorem d_BN_message_49 : decode b_BN_message 49 = .ok (.invokevirtual 211, 3) := by decide +kernel
theorem d_BN_message_52 : decode b_BN_message 52 = .ok (.ireturn, 1) := by decide +kernel
theorem d_BN_send_0 : decode b_BN_send 0 = .ok (.aload_n 0, 1) := by decide +kernel
theorem d_BN_send_1 : decode b_BN_send 1 = .ok (.getfield 34, 3) := by decide +kernel
theorem d_BN_send_4 : decode b_BN_send 4 = .ok (.iload_n 1, 1) := by decide +kernel
theorem d_BN_send_5 : decode b_BN_send 5 = .ok (.iload_n 2, 1) := by decide +kernel
theorem d_BN_send_6 : decode b_BN_send 6 = .ok (.iload_n 3, 1) := by decide +kernel
theorem d_BN_send_7 : decode b_BN_send 7 = .ok (.aload_n 0, 1) := by decide +kernel
theorem d_BN_send_8 : decode b_BN_send 8 = .ok (.getfield 11, 3) := by decide +kernel
theorem d_BN_send_11 : decode b_BN_send 11 = .ok (.iload_n 2, 1) := by decide +kernel
theorem d_BN_send_12 : decode b_BN_send 12 = .ok (.aaload, 1) := by decide +kernel
theorem d_BN_send_13 : decode b_BN_send 13 = .ok (.getfield 214, 3) := by decide +kernel
theorem d_BN_send_16 : decode b_BN_send 16 = .ok (.iload 4, 2) := by decide +kernel
theorem d_BN_send_18 : decode b_BN_send 18 = .ok (.iconst 0, 1) := by decide +kernel
theorem d_BN_send_19 : decode b_BN_send 19 = .ok (.iconst 0, 1) := by decide +kernel
theorem d_BN_send_20 : decode b_BN_send 20 = .ok (.invokevirtual 217, 3) := by decide +kernel
theorem d_BN_send_23 : decode b_BN_send 23 = .ok (.return_, 1) := by decide +kernel
theorem d_BN_sendValue_0 : decode b_BN_sendValue 0 = .ok (.aload_n 0, 1) := by decide +kernel
theorem d_BN_sendValue_1 : decode b_BN_sendValue 1 = .ok (.getfield 11, 3) := by decide +kernel
theorem d_BN_sendValue_4 : decode b_BN_sendValue 4 = .ok (.iload_n 1, 1) := by decide +kernel
theorem d_BN_sendValue_5 : decode b_BN_sendValue 5 = .ok (.aaload, 1) := by decide +kernel
theorem d_BN_sendValue_6 : decode b_BN_sendValue 6 = .ok (.astore_n 3, 1) := by decide +kernel
theorem d_BN_sendValue_7 : decode b_BN_sendValue 7 = .ok (.aload_n 3, 1) := by decide +kernel
theorem d_BN_sendValue_8 : decode b_BN_sendValue 8 = .ok (.getfield 82, 3) := by decide +kernel
theorem d_BN_sendValue_11 : decode b_BN_sendValue 11 = .ok (.iload_n 2, 1) := by decide +kernel
theorem d_BN_sendValue_12 : decode b_BN_sendValue 12 = .ok (.aaload, 1) := by decide +kernel
theorem d_BN_sendValue_13 : decode b_BN_sendValue 13 = .ok (.astore 4, 2) := by decide +kernel
theorem d_BN_sendValue_15 : decode b_BN_sendValue 15 = .ok (.aload_n 0, 1) := by decide +kernel
theorem d_BN_sendValue_16 : decode b_BN_sendValue 16 = .ok (.getfield 34, 3) := by decide +kernel
theorem d_BN_sendValue_19 : decode b_BN_sendValue 19 = .ok (.iconst 1, 1) := by decide +kernel
theorem d_BN_sendValue_20 : decode b_BN_sendValue 20 = .ok (.iload_n 1, 1) := by decide +kernel
theorem d_BN_sendValue_21 : decode b_BN_sendValue 21 = .ok (.iload_n 2, 1) := by decide +kernel
theorem d_BN_sendValue_22 : decode b_BN_sendValue 22 = .ok (.aload_n 3, 1) := by decide +kernel
theorem d_BN_sendValue_23 : decode b_BN_sendValue 23 = .ok (.getfield 214, 3) := by decide +kernel
theorem d_BN_sendValue_26 : decode b_BN_sendValue 26 = .ok (.aload 4, 2) := by decide +kernel
theorem d_BN_sendValue_28 : decode b_BN_sendValue 28 = .ok (.getfield 220, 3) := by decide +kernel
theorem d_BN_sendValue_31 : decode b_BN_sendValue 31 = .ok (.aload 4, 2) := by decide +kernel
theorem d_BN_sendValue_33 : decode b_BN_sendValue 33 = .ok (.getfield 223, 3) := by decide +kernel
theorem d_BN_sendValue_36 : decode b_BN_sendValue 36 = .ok (.aload_n 3, 1) := by decide +kernel
theorem d_BN_sendValue_37 : decode b_BN_sendValue 37 = .ok (.getfield 123, 3) := by decide +kernel
theorem d_BN_sendValue_40 : decode b_BN_sendValue 40 = .ok (.invokevirtual 217, 3) := by decide +kernel
theorem d_BN_sendValue_43 : decode b_BN_sendValue 43 = .ok (.aload 4, 2) := by decide +kernel
theorem d_BN_sendValue_45 : decode b_BN_sendValue 45 = .ok (.aload_n 0, 1) := by decide +kernel
theorem d_BN_sendValue_46 : decode b_BN_sendValue 46 = .ok (.getfield 138, 3) := by decide +kernel
theorem d_BN_sendValue_49 : decode b_BN_sendValue 49 = .ok (.putfield 165, 3) := by decide +kernel
theorem d_BN_sendValue_52 : decode b_BN_sendValue 52 = .ok (.return_, 1) := by decide +kernel
theorem d_BN_sendSounds_0 : decode b_BN_sendSounds 0 = .ok (.aload_n 0, 1) := by decide +kernel
theorem d_BN_sendSounds_1 : decode b_BN_sendSounds 1 = .ok (.iconst 3, 1) := by decide +kernel
theorem d_BN_sendSounds_2 : decode b_BN_sendSounds 2 = .ok (.iload_n 1, 1) := by decide +kernel
theorem d_BN_sendSounds_3 : decode b_BN_sendSounds 3 = .ok (.iconst 0, 1) := by decide +kernel
theorem d_BN_sendSounds_4 : decode b_BN_sendSounds 4 = .ok (.iconst 0, 1) := by decide +kernel
theorem d_BN_sendSounds_5 : decode b_BN_sendSounds 5 = .ok (.invokevirtual 174, 3) := by decide +kernel
theorem d_BN_sendSounds_8 : decode b_BN_sendSounds 8 = .ok (.aload_n 0, 1) := by decide +kernel
theorem d_BN_sendSounds_9 : decode b_BN_sendSounds 9 = .ok (.getfield 11, 3) := by decide +kernel
theorem d_BN_sendSounds_12 : decode b_BN_sendSounds 12 = .ok (.iload_n 1, 1) := by decide +kernel
theorem d_BN_sendSounds_13 : decode b_BN_sendSounds 13 = .ok (.aaload, 1) := by decide +kernel
theorem d_BN_sendSounds_14 : decode b_BN_sendSounds 14 = .ok (.aload_n 0, 1) := by decide +kernel
theorem d_BN_sendSounds_15 : decode b_BN_sendSounds 15 = .ok (.getfield 138, 3) := by decide +kernel
theorem d_BN_sendSounds_18 : decode b_BN_sendSounds 18 = .ok (.putfield 181, 3) := by decide +kernel
theorem d_BN_sendSounds_21 : decode b_BN_sendSounds 21 = .ok (.return_, 1) := by decide +kernel
theorem d_BN_deliver_0 : decode b_BN_deliver 0 = .ok (.aload_n 0, 1) := by decide +kernel
theorem d_BN_deliver_1 : decode b_BN_deliver 1 = .ok (.getfield 11, 3) := by decide +kernel
theorem d_BN_deliver_4 : decode b_BN_deliver 4 = .ok (.aload_n 0, 1) := by decide +kernel
theorem d_BN_deliver_5 : decode b_BN_deliver 5 = .ok (.getfield 41, 3) := by decide +kernel
theorem d_BN_deliver_8 : decode b_BN_deliver 8 = .ok (.getfield 226, 3) := by decide +kernel
theorem d_BN_deliver_11 : decode b_BN_deliver 11 = .ok (.aaload, 1) := by decide +kernel
theorem d_BN_deliver_12 : decode b_BN_deliver 12 = .ok (.astore_n 1, 1) := by decide +kernel
theorem d_BN_deliver_13 : decode b_BN_deliver 13 = .ok (.aload_n 0, 1) := by decide +kernel
theorem d_BN_deliver_14 : decode b_BN_deliver 14 = .ok (.getfield 41, 3) := by decide +kernel
theorem d_BN_deliver_17 : decode b_BN_deliver 17 = .ok (.getfield 229, 3) := by decide +kernel
theorem d_BN_deliver_20 : decode b_BN_deliver 20 = .ok (.iconst 5, 1) := by decide +kernel
theorem d_BN_deliver_21 : decode b_BN_deliver 21 = .ok (.if_icmp .ne 11, 3) := by decide +kernel
theorem d_BN_deliver_24 : decode b_BN_deliver 24 = .ok (.aload_n 0, 1) := by decide +kernel
theorem d_BN_deliver_25 : decode b_BN_deliver 25 = .ok (.aload_n 1, 1) := by decide +kernel
theorem d_BN_deliver_26 : decode b_BN_deliver 26 = .ok (.invokevirtual 232, 3) := by decide +kernel
theorem d_BN_deliver_29 : decode b_BN_deliver 29 = .ok (.goto 61, 3) := by decide +kernel
theorem d_BN_deliver_32 : decode b_BN_deliver 32 = .ok (.aload_n 0, 1) := by decide +kernel
theorem d_BN_deliver_33 : decode b_BN_deliver 33 = .ok (.getfield 41, 3) := by decide +kernel
theorem d_BN_deliver_36 : decode b_BN_deliver 36 = .ok (.getfield 229, 3) := by decide +kernel
theorem d_BN_deliver_39 : decode b_BN_deliver 39 = .ok (.bipush 6, 2) := by decide +kernel
theorem d_BN_deliver_41 : decode b_BN_deliver 41 = .ok (.if_icmp .ne 30, 3) := by decide +kernel
theorem d_BN_deliver_44 : decode b_BN_deliver 44 = .ok (.aload_n 0, 1) := by decide +kernel
theorem d_BN_deliver_45 : decode b_BN_deliver 45 = .ok (.getfield 27, 3) := by decide +kernel
theorem d_BN_deliver_48 : decode b_BN_deliver 48 = .ok (.aload_n 0, 1) := by decide +kernel
theorem d_BN_deliver_49 : decode b_BN_deliver 49 = .ok (.getfield 41, 3) := by decide +kernel
theorem d_BN_deliver_52 : decode b_BN_deliver 52 = .ok (.getfield 236, 3) := by decide +kernel
theorem d_BN_deliver_55 : decode b_BN_deliver 55 = .ok (.aaload, 1) := by decide +kernel
theorem d_BN_deliver_56 : decode b_BN_deliver 56 = .ok (.iconst 1, 1) := by decide +kernel
theorem d_BN_deliver_57 : decode b_BN_deliver 57 = .ok (.aload_n 0, 1) := by decide +kernel
theorem d_BN_deliver_58 : decode b_BN_deliver 58 = .ok (.getfield 41, 3) := by decide +kernel
theorem d_BN_deliver_61 : decode b_BN_deliver 61 = .ok (.getfield 239, 3) := by decide +kernel
theorem d_BN_deliver_64 : decode b_BN_deliver 64 = .ok (.iadd, 1) := by decide +kernel
theorem d_BN_deliver_65 : decode b_BN_deliver 65 = .ok (.putfield 240, 3) := by decide +kernel
theorem d_BN_deliver_68 : decode b_BN_deliver 68 = .ok (.goto 22, 3) := by decide +kernel
theorem d_BN_deliver_71 : decode b_BN_deliver 71 = .ok (.aload_n 0, 1) := by decide +kernel
theorem d_BN_deliver_72 : decode b_BN_deliver 72 = .ok (.getfield 41, 3) := by decide +kernel
theorem d_BN_deliver_75 : decode b_BN_deliver 75 = .ok (.getfield 243, 3) := by decide +kernel
theorem d_BN_deliver_78 : decode b_BN_deliver 78 = .ok (.aload_n 1, 1) := by decide +kernel
theorem d_BN_deliver_79 : decode b_BN_deliver 79 = .ok (.getfield 214, 3) := by decide +kernel
theorem d_BN_deliver_82 : decode b_BN_deliver 82 = .ok (.if_icmp .ne 8, 3) := by decide +kernel
theorem d_BN_deliver_85 : decode b_BN_deliver 85 = .ok (.aload_n 0, 1) := by decide +kernel
theorem d_BN_deliver_86 : decode b_BN_deliver 86 = .ok (.aload_n 1, 1) := by decide +kernel
theorem d_BN_deliver_87 : decode b_BN_deliver 87 = .ok (.invokevirtual 244, 3) := by decide +kernel
theorem d_BN_deliver_90 : decode b_BN_deliver 90 = .ok (.return_, 1) := by decide +kernel
theorem d_BN_deliverWithinLife_0 : decode b_BN_deliverWithinLife 0 = .ok (.aload_n 0, 1) := by decide +kernel
theorem d_BN_deliverWithinLife_1 : decode b_BN_deliverWithinLife 1 = .ok (.getfield 41, 3) := by decide +kernel
theorem d_BN_deliverWithinLife_4 : decode b_BN_deliverWithinLife 4 = .ok (.getfield 229, 3) := by decide +kernel
theorem d_BN_deliverWithinLife_7 : decode b_BN_deliverWithinLife 7 = .ok (.tableswitch 119 1 4 #[29, 65, 87, 98], 29) := by decide +kernel
theorem d_BN_deliverWithinLife_36 : decode b_BN_deliverWithinLife 36 = .ok (.iconst 0, 1) := by decide +kernel
theorem d_BN_deliverWithinLife_37 : decode b_BN_deliverWithinLife 37 = .ok (.istore_n 2, 1) := by decide +kernel
theorem d_BN_deliverWithinLife_38 : decode b_BN_deliverWithinLife 38 = .ok (.iload_n 2, 1) := by decide +kernel
theorem d_BN_deliverWithinLife_39 : decode b_BN_deliverWithinLife 39 = .ok (.aload_n 0, 1) := by decide +kernel
theorem d_BN_deliverWithinLife_40 : decode b_BN_deliverWithinLife 40 = .ok (.getfield 247, 3) := by decide +kernel
theorem d_BN_deliverWithinLife_43 : decode b_BN_deliverWithinLife 43 = .ok (.if_icmp .ge 26, 3) := by decide +kernel
theorem d_BN_deliverWithinLife_46 : decode b_BN_deliverWithinLife 46 = .ok (.aload_n 0, 1) := by decide +kernel
theorem d_BN_deliverWithinLife_47 : decode b_BN_deliverWithinLife 47 = .ok (.getfield 21, 3) := by decide +kernel
theorem d_BN_deliverWithinLife_50 : decode b_BN_deliverWithinLife 50 = .ok (.iload_n 2, 1) := by decide +kernel
theorem d_BN_deliverWithinLife_51 : decode b_BN_deliverWithinLife 51 = .ok (.aaload, 1) := by decide +kernel
theorem d_BN_deliverWithinLife_52 : decode b_BN_deliverWithinLife 52 = .ok (.aload_n 0, 1) := by decide +kernel
theorem d_BN_deliverWithinLife_53 : decode b_BN_deliverWithinLife 53 = .ok (.getfield 41, 3) := by decide +kernel
theorem d_BN_deliverWithinLife_56 : decode b_BN_deliverWithinLife 56 = .ok (.aload_n 0, 1) := by decide +kernel
theorem d_BN_deliverWithinLife_57 : decode b_BN_deliverWithinLife 57 = .ok (.getfield 138, 3) := by decide +kernel
theorem d_BN_deliverWithinLife_60 : decode b_BN_deliverWithinLife 60 = .ok (.invokevirtual 250, 3) := by decide +kernel
theorem d_BN_deliverWithinLife_63 : decode b_BN_deliverWithinLife 63 = .ok (.iinc 2 1, 3) := by decide +kernel
theorem d_BN_deliverWithinLife_66 : decode b_BN_deliverWithinLife 66 = .ok (.goto (-28), 3) := by decide +kernel
theorem d_BN_deliverWithinLife_69 : decode b_BN_deliverWithinLife 69 = .ok (.goto 57, 3) := by decide +kernel
theorem d_BN_deliverWithinLife_72 : decode b_BN_deliverWithinLife 72 = .ok (.aload_n 0, 1) := by decide +kernel
theorem d_BN_deliverWithinLife_73 : decode b_BN_deliverWithinLife 73 = .ok (.aload_n 1, 1) := by decide +kernel
theorem d_BN_deliverWithinLife_74 : decode b_BN_deliverWithinLife 74 = .ok (.getfield 82, 3) := by decide +kernel
theorem d_BN_deliverWithinLife_77 : decode b_BN_deliverWithinLife 77 = .ok (.aload_n 0, 1) := by decide +kernel
theorem d_BN_deliverWithinLife_78 : decode b_BN_deliverWithinLife 78 = .ok (.getfield 41, 3) := by decide +kernel
theorem d_BN_deliverWithinLife_81 : decode b_BN_deliverWithinLife 81 = .ok (.getfield 236, 3) := by decide +kernel
theorem d_BN_deliverWithinLife_84 : decode b_BN_deliverWithinLife 84 = .ok (.aaload, 1) := by decide +kernel
theorem d_BN_deliverWithinLife_85 : decode b_BN_deliverWithinLife 85 = .ok (.getfield 254, 3) := by decide +kernel
theorem d_BN_deliverWithinLife_88 : decode b_BN_deliverWithinLife 88 = .ok (.invokevirtual 257, 3) := by decide +kernel
theorem d_BN_deliverWithinLife_91 : decode b_BN_deliverWithinLife 91 = .ok (.goto 35, 3) := by decide +kernel
theorem d_BN_deliverWithinLife_94 : decode b_BN_deliverWithinLife 94 = .ok (.aload_n 1, 1) := by decide +kernel
theorem d_BN_deliverWithinLife_95 : decode b_BN_deliverWithinLife 95 = .ok (.aload_n 0, 1) := by decide +kernel
theorem d_BN_deliverWithinLife_96 : decode b_BN_deliverWithinLife 96 = .ok (.getfield 138, 3) := by decide +kernel
theorem d_BN_deliverWithinLife_99 : decode b_BN_deliverWithinLife 99 = .ok (.putfield 261, 3) := by decide +kernel
theorem d_BN_deliverWithinLife_102 : decode b_BN_deliverWithinLife 102 = .ok (.goto 24, 3) := by decide +kernel
theorem d_BN_deliverWithinLife_105 : decode b_BN_deliverWithinLife 105 = .ok (.aload_n 1, 1) := by decide +kernel
theorem d_BN_deliverWithinLife_106 : decode b_BN_deliverWithinLife 106 = .ok (.getfield 82, 3) := by decide +kernel
theorem d_BN_deliverWithinLife_109 : decode b_BN_deliverWithinLife 109 = .ok (.aload_n 0, 1) := by decide +kernel
theorem d_BN_deliverWithinLife_110 : decode b_BN_deliverWithinLife 110 = .ok (.getfield 41, 3) := by decide +kernel
theorem d_BN_deliverWithinLife_113 : decode b_BN_deliverWithinLife 113 = .ok (.getfield 236, 3) := by decide +kernel
theorem d_BN_deliverWithinLife_116 : decode b_BN_deliverWithinLife 116 = .ok (.aaload, 1) := by decide +kernel
theorem d_BN_deliverWithinLife_117 : decode b_BN_deliverWithinLife 117 = .ok (.getfield 100, 3) := by decide +kernel
theorem d_BN_deliverWithinLife_120 : decode b_BN_deliverWithinLife 120 = .ok (.invokevirtual 264, 3) := by decide +kernel
theorem d_BN_deliverWithinLife_123 : decode b_BN_deliverWithinLife 123 = .ok (.goto 3, 3) := by decide +kernel
theorem d_BN_deliverWithinLife_126 : decode b_BN_deliverWithinLife 126 = .ok (.return_, 1) := by decide +kernel
theorem d_BN_learnAlarm_0 : decode b_BN_learnAlarm 0 = .ok (.aload_n 0, 1) := by decide +kernel
theorem d_BN_learnAlarm_1 : decode b_BN_learnAlarm 1 = .ok (.getfield 41, 3) := by decide +kernel
theorem d_BN_learnAlarm_4 : decode b_BN_learnAlarm 4 = .ok (.getfield 267, 3) := by decide +kernel
theorem d_BN_learnAlarm_7 : decode b_BN_learnAlarm 7 = .ok (.aload_n 1, 1) := by decide +kernel
theorem d_BN_learnAlarm_8 : decode b_BN_learnAlarm 8 = .ok (.getfield 270, 3) := by decide +kernel
theorem d_BN_learnAlarm_11 : decode b_BN_learnAlarm 11 = .ok (.if_icmp .gt 4, 3) := by decide +kernel
theorem d_BN_learnAlarm_14 : decode b_BN_learnAlarm 14 = .ok (.return_, 1) := by decide +kernel
theorem d_BN_learnAlarm_15 : decode b_BN_learnAlarm 15 = .ok (.aload_n 1, 1) := by decide +kernel
theorem d_BN_learnAlarm_16 : decode b_BN_learnAlarm 16 = .ok (.aload_n 0, 1) := by decide +kernel
theorem d_BN_learnAlarm_17 : decode b_BN_learnAlarm 17 = .ok (.getfield 41, 3) := by decide +kernel
theorem d_BN_learnAlarm_20 : decode b_BN_learnAlarm 20 = .ok (.getfield 267, 3) := by decide +kernel
theorem d_BN_learnAlarm_23 : decode b_BN_learnAlarm 23 = .ok (.aload_n 0, 1) := by decide +kernel
theorem d_BN_learnAlarm_24 : decode b_BN_learnAlarm 24 = .ok (.getfield 41, 3) := by decide +kernel
theorem d_BN_learnAlarm_27 : decode b_BN_learnAlarm 27 = .ok (.getfield 239, 3) := by decide +kernel
theorem d_BN_learnAlarm_30 : decode b_BN_learnAlarm 30 = .ok (.iconst 1, 1) := by decide +kernel
theorem d_BN_learnAlarm_31 : decode b_BN_learnAlarm 31 = .ok (.if_icmp .ne 7, 3) := by decide +kernel
theorem d_BN_learnAlarm_34 : decode b_BN_learnAlarm 34 = .ok (.iconst 1, 1) := by decide +kernel
theorem d_BN_learnAlarm_35 : decode b_BN_learnAlarm 35 = .ok (.goto 4, 3) := by decide +kernel
theorem d_BN_learnAlarm_38 : decode b_BN_learnAlarm 38 = .ok (.iconst 0, 1) := by decide +kernel
theorem d_BN_learnAlarm_39 : decode b_BN_learnAlarm 39 = .ok (.invokevirtual 273, 3) := by decide +kernel
theorem d_BN_learnAlarm_42 : decode b_BN_learnAlarm 42 = .ok (.aload_n 1, 1) := by decide +kernel
theorem d_BN_learnAlarm_43 : decode b_BN_learnAlarm 43 = .ok (.getfield 277, 3) := by decide +kernel
theorem d_BN_learnAlarm_46 : decode b_BN_learnAlarm 46 = .ok (.ifCond .eq 14, 3) := by decide +kernel
theorem d_BN_learnAlarm_49 : decode b_BN_learnAlarm 49 = .ok (.aload_n 0, 1) := by decide +kernel
theorem d_BN_learnAlarm_50 : decode b_BN_learnAlarm 50 = .ok (.aload_n 0, 1) := by decide +kernel
theorem d_BN_learnAlarm_51 : decode b_BN_learnAlarm 51 = .ok (.getfield 41, 3) := by decide +kernel
theorem d_BN_learnAlarm_54 : decode b_BN_learnAlarm 54 = .ok (.getfield 226, 3) := by decide +kernel
theorem d_BN_learnAlarm_57 : decode b_BN_learnAlarm 57 = .ok (.invokevirtual 184, 3) := by decide +kernel
theorem d_BN_learnAlarm_60 : decode b_BN_learnAlarm 60 = .ok (.return_, 1) := by decide +kernel
theorem d_BN_takeOrder_0 : decode b_BN_takeOrder 0 = .ok (.aload_n 0, 1) := by decide +kernel
theorem d_BN_takeOrder_1 : decode b_BN_takeOrder 1 = .ok (.getfield 27, 3) := by decide +kernel
theorem d_BN_takeOrder_4 : decode b_BN_takeOrder 4 = .ok (.aload_n 0, 1) := by decide +kernel
theorem d_BN_takeOrder_5 : decode b_BN_takeOrder 5 = .ok (.getfield 41, 3) := by decide +kernel
theorem d_BN_takeOrder_8 : decode b_BN_takeOrder 8 = .ok (.getfield 236, 3) := by decide +kernel
theorem d_BN_takeOrder_11 : decode b_BN_takeOrder 11 = .ok (.aaload, 1) := by decide +kernel
theorem d_BN_takeOrder_12 : decode b_BN_takeOrder 12 = .ok (.astore_n 2, 1) := by decide +kernel
theorem d_BN_takeOrder_13 : decode b_BN_takeOrder 13 = .ok (.aload_n 2, 1) := by decide +kernel
theorem d_BN_takeOrder_14 : decode b_BN_takeOrder 14 = .ok (.getfield 278, 3) := by decide +kernel
theorem d_BN_takeOrder_17 : decode b_BN_takeOrder 17 = .ok (.iconst (-1), 1) := by decide +kernel
theorem d_BN_takeOrder_18 : decode b_BN_takeOrder 18 = .ok (.if_icmp .ne 31, 3) := by decide +kernel
theorem d_BN_takeOrder_21 : decode b_BN_takeOrder 21 = .ok (.aload_n 2, 1) := by decide +kernel
theorem d_BN_takeOrder_22 : decode b_BN_takeOrder 22 = .ok (.aload_n 0, 1) := by decide +kernel
theorem d_BN_takeOrder_23 : decode b_BN_takeOrder 23 = .ok (.aload_n 2, 1) := by decide +kernel
theorem d_BN_takeOrder_24 : decode b_BN_takeOrder 24 = .ok (.aload_n 1, 1) := by decide +kernel
theorem d_BN_takeOrder_25 : decode b_BN_takeOrder 25 = .ok (.invokevirtual 281, 3) := by decide +kernel
theorem d_BN_takeOrder_28 : decode b_BN_takeOrder 28 = .ok (.putfield 278, 3) := by decide +kernel
theorem d_BN_takeOrder_31 : decode b_BN_takeOrder 31 = .ok (.aload_n 2, 1) := by decide +kernel
theorem d_BN_takeOrder_32 : decode b_BN_takeOrder 32 = .ok (.getfield 278, 3) := by decide +kernel
theorem d_BN_takeOrder_35 : decode b_BN_takeOrder 35 = .ok (.ifCond .ne 14, 3) := by decide +kernel
theorem d_BN_takeOrder_38 : decode b_BN_takeOrder 38 = .ok (.aload_n 1, 1) := by decide +kernel
theorem d_BN_takeOrder_39 : decode b_BN_takeOrder 39 = .ok (.getfield 110, 3) := by decide +kernel
theorem d_BN_takeOrder_42 : decode b_BN_takeOrder 42 = .ok (.aload_n 2, 1) := by decide +kernel
theorem d_BN_takeOrder_43 : decode b_BN_takeOrder 43 = .ok (.getfield 285, 3) := by decide +kernel
theorem d_BN_takeOrder_46 : decode b_BN_takeOrder 46 = .ok (.putfield 286, 3) := by decide +kernel
theorem d_BN_takeOrder_49 : decode b_BN_takeOrder 49 = .ok (.aload_n 0, 1) := by decide +kernel
theorem d_BN_takeOrder_50 : decode b_BN_takeOrder 50 = .ok (.bipush 6, 2) := by decide +kernel
theorem d_BN_takeOrder_52 : decode b_BN_takeOrder 52 = .ok (.aload_n 0, 1) := by decide +kernel
theorem d_BN_takeOrder_53 : decode b_BN_takeOrder 53 = .ok (.getfield 41, 3) := by decide +kernel
theorem d_BN_takeOrder_56 : decode b_BN_takeOrder 56 = .ok (.getfield 226, 3) := by decide +kernel
theorem d_BN_takeOrder_59 : decode b_BN_takeOrder 59 = .ok (.aload_n 0, 1) := by decide +kernel
theorem d_BN_takeOrder_60 : decode b_BN_takeOrder 60 = .ok (.getfield 41, 3) := by decide +kernel
theorem d_BN_takeOrder_63 : decode b_BN_takeOrder 63 = .ok (.getfield 236, 3) := by decide +kernel
theorem d_BN_takeOrder_66 : decode b_BN_takeOrder 66 = .ok (.aload_n 2, 1) := by decide +kernel
theorem d_BN_takeOrder_67 : decode b_BN_takeOrder 67 = .ok (.getfield 278, 3) := by decide +kernel
theorem d_BN_takeOrder_70 : decode b_BN_takeOrder 70 = .ok (.invokevirtual 174, 3) := by decide +kernel
theorem d_BN_takeOrder_73 : decode b_BN_takeOrder 73 = .ok (.return_, 1) := by decide +kernel
theorem d_BN_judge_0 : decode b_BN_judge 0 = .ok (.aload_n 0, 1) := by decide +kernel
theorem d_BN_judge_1 : decode b_BN_judge 1 = .ok (.getfield 41, 3) := by decide +kernel
theorem d_BN_judge_4 : decode b_BN_judge 4 = .ok (.getfield 243, 3) := by decide +kernel
theorem d_BN_judge_7 : decode b_BN_judge 7 = .ok (.aload_n 2, 1) := by decide +kernel
theorem d_BN_judge_8 : decode b_BN_judge 8 = .ok (.getfield 214, 3) := by decide +kernel
theorem d_BN_judge_11 : decode b_BN_judge 11 = .ok (.if_icmp .eq 5, 3) := by decide +kernel
theorem d_BN_judge_14 : decode b_BN_judge 14 = .ok (.iconst 1, 1) := by decide +kernel
theorem d_BN_judge_15 : decode b_BN_judge 15 = .ok (.ireturn, 1) := by decide +kernel
theorem d_BN_judge_16 : decode b_BN_judge 16 = .ok (.aload_n 2, 1) := by decide +kernel
theorem d_BN_judge_17 : decode b_BN_judge 17 = .ok (.getfield 110, 3) := by decide +kernel
theorem d_BN_judge_20 : decode b_BN_judge 20 = .ok (.aload_n 0, 1) := by decide +kernel
theorem d_BN_judge_21 : decode b_BN_judge 21 = .ok (.getfield 138, 3) := by decide +kernel
theorem d_BN_judge_24 : decode b_BN_judge 24 = .ok (.invokevirtual 287, 3) := by decide +kernel
theorem d_BN_judge_27 : decode b_BN_judge 27 = .ok (.aload_n 1, 1) := by decide +kernel
theorem d_BN_judge_28 : decode b_BN_judge 28 = .ok (.getfield 290, 3) := by decide +kernel
theorem d_BN_judge_31 : decode b_BN_judge 31 = .ok (.if_icmp .eq 5, 3) := by decide +kernel
theorem d_BN_judge_34 : decode b_BN_judge 34 = .ok (.iconst 2, 1) := by decide +kernel
theorem d_BN_judge_35 : decode b_BN_judge 35 = .ok (.ireturn, 1) := by decide +kernel
theorem d_BN_judge_36 : decode b_BN_judge 36 = .ok (.aload_n 2, 1) := by decide +kernel
theorem d_BN_judge_37 : decode b_BN_judge 37 = .ok (.getfield 110, 3) := by decide +kernel
theorem d_BN_judge_40 : decode b_BN_judge 40 = .ok (.getfield 293, 3) := by decide +kernel
theorem d_BN_judge_43 : decode b_BN_judge 43 = .ok (.ifCond .ne 5, 3) := by decide +kernel
theorem d_BN_judge_46 : decode b_BN_judge 46 = .ok (.iconst 3, 1) := by decide +kernel
theorem d_BN_judge_47 : decode b_BN_judge 47 = .ok (.ireturn, 1) := by decide +kernel
theorem d_BN_judge_48 : decode b_BN_judge 48 = .ok (.aload_n 2, 1) := by decide +kernel
theorem d_BN_judge_49 : decode b_BN_judge 49 = .ok (.getfield 110, 3) := by decide +kernel
theorem d_BN_judge_52 : decode b_BN_judge 52 = .ok (.getfield 296, 3) := by decide +kernel
theorem d_BN_judge_55 : decode b_BN_judge 55 = .ok (.aload_n 1, 1) := by decide +kernel
theorem d_BN_judge_56 : decode b_BN_judge 56 = .ok (.getfield 285, 3) := by decide +kernel
theorem d_BN_judge_59 : decode b_BN_judge 59 = .ok (.invokevirtual 133, 3) := by decide +kernel
theorem d_BN_judge_62 : decode b_BN_judge 62 = .ok (.ifCond .ne 5, 3) := by decide +kernel
theorem d_BN_judge_65 : decode b_BN_judge 65 = .ok (.iconst 4, 1) := by decide +kernel
theorem d_BN_judge_66 : decode b_BN_judge 66 = .ok (.ireturn, 1) := by decide +kernel
theorem d_BN_judge_67 : decode b_BN_judge 67 = .ok (.aload_n 2, 1) := by decide +kernel
theorem d_BN_judge_68 : decode b_BN_judge 68 = .ok (.getfield 110, 3) := by decide +kernel
theorem d_BN_judge_71 : decode b_BN_judge 71 = .ok (.getfield 286, 3) := by decide +kernel
theorem d_BN_judge_74 : decode b_BN_judge 74 = .ok (.aload_n 1, 1) := by decide +kernel
theorem d_BN_judge_75 : decode b_BN_judge 75 = .ok (.getfield 297, 3) := by decide +kernel
theorem d_BN_judge_78 : decode b_BN_judge 78 = .ok (.if_icmp .ne 7, 3) := by decide +kernel
theorem d_BN_judge_81 : decode b_BN_judge 81 = .ok (.iconst 0, 1) := by decide +kernel
theorem d_BN_judge_82 : decode b_BN_judge 82 = .ok (.goto 4, 3) := by decide +kernel
theorem d_BN_judge_85 : decode b_BN_judge 85 = .ok (.iconst 5, 1) := by decide +kernel
theorem d_BN_judge_86 : decode b_BN_judge 86 = .ok (.ireturn, 1) := by decide +kernel
theorem d_BN_bind_0 : decode b_BN_bind 0 = .ok (.iload_n 1, 1) := by decide +kernel
theorem d_BN_bind_1 : decode b_BN_bind 1 = .ok (.invokestatic 52, 3) := by decide +kernel
theorem d_BN_bind_4 : decode b_BN_bind 4 = .ok (.ifCond .eq 10, 3) := by decide +kernel
theorem d_BN_bind_7 : decode b_BN_bind 7 = .ok (.iload_n 2, 1) := by decide +kernel
theorem d_BN_bind_8 : decode b_BN_bind 8 = .ok (.invokestatic 66, 3) := by decide +kernel
theorem d_BN_bind_11 : decode b_BN_bind 11 = .ok (.ifCond .ne 11, 3) := by decide +kernel
theorem d_BN_bind_14 : decode b_BN_bind 14 = .ok (.new 73, 3) := by decide +kernel
theorem d_BN_bind_17 : decode b_BN_bind 17 = .ok (.dup, 1) := by decide +kernel
theorem d_BN_bind_18 : decode b_BN_bind 18 = .ok (.invokespecial 75, 3) := by decide +kernel
theorem d_BN_bind_21 : decode b_BN_bind 21 = .ok (.athrow, 1) := by decide +kernel
theorem d_BN_bind_22 : decode b_BN_bind 22 = .ok (.aload_n 0, 1) := by decide +kernel
theorem d_BN_bind_23 : decode b_BN_bind 23 = .ok (.iload_n 1, 1) := by decide +kernel
theorem d_BN_bind_24 : decode b_BN_bind 24 = .ok (.iload_n 2, 1) := by decide +kernel
theorem d_BN_bind_25 : decode b_BN_bind 25 = .ok (.invokevirtual 300, 3) := by decide +kernel
theorem d_BN_bind_28 : decode b_BN_bind 28 = .ok (.istore_n 3, 1) := by decide +kernel
theorem d_BN_bind_29 : decode b_BN_bind 29 = .ok (.aload_n 0, 1) := by decide +kernel
theorem d_BN_bind_30 : decode b_BN_bind 30 = .ok (.getfield 247, 3) := by decide +kernel
theorem d_BN_bind_33 : decode b_BN_bind 33 = .ok (.bipush 16, 2) := by decide +kernel
theorem d_BN_bind_35 : decode b_BN_bind 35 = .ok (.if_icmp .ge 8, 3) := by decide +kernel
theorem d_BN_bind_38 : decode b_BN_bind 38 = .ok (.iload_n 3, 1) := by decide +kernel
theorem d_BN_bind_39 : decode b_BN_bind 39 = .ok (.iconst (-1), 1) := by decide +kernel
theorem d_BN_bind_40 : decode b_BN_bind 40 = .ok (.if_icmp .ne 11, 3) := by decide +kernel
theorem d_BN_bind_43 : decode b_BN_bind 43 = .ok (.new 79, 3) := by decide +kernel
theorem d_BN_bind_46 : decode b_BN_bind 46 = .ok (.dup, 1) := by decide +kernel
theorem d_BN_bind_47 : decode b_BN_bind 47 = .ok (.invokespecial 81, 3) := by decide +kernel
theorem d_BN_bind_50 : decode b_BN_bind 50 = .ok (.athrow, 1) := by decide +kernel
theorem d_BN_bind_51 : decode b_BN_bind 51 = .ok (.aload_n 0, 1) := by decide +kernel
theorem d_BN_bind_52 : decode b_BN_bind 52 = .ok (.getfield 11, 3) := by decide +kernel
theorem d_BN_bind_55 : decode b_BN_bind 55 = .ok (.iload_n 3, 1) := by decide +kernel
theorem d_BN_bind_56 : decode b_BN_bind 56 = .ok (.aaload, 1) := by decide +kernel
theorem d_BN_bind_57 : decode b_BN_bind 57 = .ok (.astore 4, 2) := by decide +kernel
theorem d_BN_bind_59 : decode b_BN_bind 59 = .ok (.aload_n 0, 1) := by decide +kernel
theorem d_BN_bind_60 : decode b_BN_bind 60 = .ok (.getfield 247, 3) := by decide +kernel
theorem d_BN_bind_63 : decode b_BN_bind 63 = .ok (.istore 5, 2) := by decide +kernel
theorem d_BN_bind_65 : decode b_BN_bind 65 = .ok (.aload_n 0, 1) := by decide +kernel
theorem d_BN_bind_66 : decode b_BN_bind 66 = .ok (.getfield 21, 3) := by decide +kernel
theorem d_BN_bind_69 : decode b_BN_bind 69 = .ok (.iload 5, 2) := by decide +kernel
theorem d_BN_bind_71 : decode b_BN_bind 71 = .ok (.aaload, 1) := by decide +kernel
theorem d_BN_bind_72 : decode b_BN_bind 72 = .ok (.iload_n 3, 1) := by decide +kernel
theorem d_BN_bind_73 : decode b_BN_bind 73 = .ok (.aload 4, 2) := by decide +kernel
theorem d_BN_bind_75 : decode b_BN_bind 75 = .ok (.iload_n 2, 1) := by decide +kernel
theorem d_BN_bind_76 : decode b_BN_bind 76 = .ok (.invokevirtual 304, 3) := by decide +kernel
theorem d_BN_bind_79 : decode b_BN_bind 79 = .ok (.aload 4, 2) := by decide +kernel
theorem d_BN_bind_81 : decode b_BN_bind 81 = .ok (.getfield 214, 3) := by decide +kernel
theorem d_BN_bind_84 : decode b_BN_bind 84 = .ok (.aload 4, 2) := by decide +kernel
theorem d_BN_bind_86 : decode b_BN_bind 86 = .ok (.getfield 123, 3) := by decide +kernel
theorem d_BN_bind_89 : decode b_BN_bind 89 = .ok (.invokevirtual 307, 3) := by decide +kernel
theorem d_BN_bind_92 : decode b_BN_bind 92 = .ok (.aload_n 0, 1) := by decide +kernel
theorem d_BN_bind_93 : decode b_BN_bind 93 = .ok (.iload 5, 2) := by decide +kernel
theorem d_BN_bind_95 : decode b_BN_bind 95 = .ok (.iconst 1, 1) := by decide +kernel
theorem d_BN_bind_96 : decode b_BN_bind 96 = .ok (.iadd, 1) := by decide +kernel
theorem d_BN_bind_97 : decode b_BN_bind 97 = .ok (.putfield 247, 3) := by decide +kernel
theorem d_BN_bind_100 : decode b_BN_bind 100 = .ok (.iload 5, 2) := by decide +kernel
theorem d_BN_bind_102 : decode b_BN_bind 102 = .ok (.ireturn, 1) := by decide +kernel
theorem d_BN_shown_0 : decode b_BN_shown 0 = .ok (.iload_n 1, 1) := by decide +kernel
theorem d_BN_shown_1 : decode b_BN_shown 1 = .ok (.ifCond .lt 20, 3) := by decide +kernel
theorem d_BN_shown_4 : decode b_BN_shown 4 = .ok (.iload_n 1, 1) := by decide +kernel
theorem d_BN_shown_5 : decode b_BN_shown 5 = .ok (.aload_n 0, 1) := by decide +kernel
theorem d_BN_shown_6 : decode b_BN_shown 6 = .ok (.getfield 247, 3) := by decide +kernel
theorem d_BN_shown_9 : decode b_BN_shown 9 = .ok (.if_icmp .ge 12, 3) := by decide +kernel
theorem d_BN_shown_12 : decode b_BN_shown 12 = .ok (.iload_n 2, 1) := by decide +kernel
theorem d_BN_shown_13 : decode b_BN_shown 13 = .ok (.ifCond .lt 8, 3) := by decide +kernel
theorem d_BN_shown_16 : decode b_BN_shown 16 = .ok (.iload_n 2, 1) := by decide +kernel
theorem d_BN_shown_17 : decode b_BN_shown 17 = .ok (.iconst 4, 1) := by decide +kernel
theorem d_BN_shown_18 : decode b_BN_shown 18 = .ok (.if_icmp .lt 11, 3) := by decide +kernel
theorem d_BN_shown_21 : decode b_BN_shown 21 = .ok (.new 208, 3) := by decide +kernel
theorem d_BN_shown_24 : decode b_BN_shown 24 = .ok (.dup, 1) := by decide +kernel
theorem d_BN_shown_25 : decode b_BN_shown 25 = .ok (.invokespecial 210, 3) := by decide +kernel
theorem d_BN_shown_28 : decode b_BN_shown 28 = .ok (.athrow, 1) := by decide +kernel
theorem d_BN_shown_29 : decode b_BN_shown 29 = .ok (.aload_n 0, 1) := by decide +kernel
theorem d_BN_shown_30 : decode b_BN_shown 30 = .ok (.getfield 21, 3) := by decide +kernel
theorem d_BN_shown_33 : decode b_BN_shown 33 = .ok (.iload_n 1, 1) := by decide +kernel
theorem d_BN_shown_34 : decode b_BN_shown 34 = .ok (.aaload, 1) := by decide +kernel
theorem d_BN_shown_35 : decode b_BN_shown 35 = .ok (.astore_n 3, 1) := by decide +kernel
theorem d_BN_shown_36 : decode b_BN_shown 36 = .ok (.iload_n 2, 1) := by decide +kernel
theorem d_BN_shown_37 : decode b_BN_shown 37 = .ok (.iconst 2, 1) := by decide +kernel
theorem d_BN_shown_38 : decode b_BN_shown 38 = .ok (.if_icmp .lt 20, 3) := by decide +kernel
theorem d_BN_shown_41 : decode b_BN_shown 41 = .ok (.iload_n 2, 1) := by decide +kernel
theorem d_BN_shown_42 : decode b_BN_shown 42 = .ok (.iconst 2, 1) := by decide +kernel
theorem d_BN_shown_43 : decode b_BN_shown 43 = .ok (.if_icmp .ne 10, 3) := by decide +kernel
theorem d_BN_shown_46 : decode b_BN_shown 46 = .ok (.aload_n 3, 1) := by decide +kernel
theorem d_BN_shown_47 : decode b_BN_shown 47 = .ok (.getfield 310, 3) := by decide +kernel
theorem d_BN_shown_50 : decode b_BN_shown 50 = .ok (.goto 7, 3) := by decide +kernel
theorem d_BN_shown_53 : decode b_BN_shown 53 = .ok (.aload_n 3, 1) := by decide +kernel
theorem d_BN_shown_54 : decode b_BN_shown 54 = .ok (.getfield 311, 3) := by decide +kernel
theorem d_BN_shown_57 : decode b_BN_shown 57 = .ok (.ireturn, 1) := by decide +kernel
theorem d_BN_shown_58 : decode b_BN_shown 58 = .ok (.aload_n 0, 1) := by decide +kernel
theorem d_BN_shown_59 : decode b_BN_shown 59 = .ok (.getfield 138, 3) := by decide +kernel
theorem d_BN_shown_62 : decode b_BN_shown 62 = .ok (.aload_n 3, 1) := by decide +kernel
theorem d_BN_shown_63 : decode b_BN_shown 63 = .ok (.getfield 314, 3) := by decide +kernel
theorem d_BN_shown_66 : decode b_BN_shown 66 = .ok (.isub, 1) := by decide +kernel
theorem d_BN_shown_67 : decode b_BN_shown 67 = .ok (.sipush 3000, 3) := by decide +kernel
theorem d_BN_shown_70 : decode b_BN_shown 70 = .ok (.if_icmp .lt 11, 3) := by decide +kernel
theorem d_BN_shown_73 : decode b_BN_shown 73 = .ok (.new 205, 3) := by decide +kernel
theorem d_BN_shown_76 : decode b_BN_shown 76 = .ok (.dup, 1) := by decide +kernel
theorem d_BN_shown_77 : decode b_BN_shown 77 = .ok (.invokespecial 207, 3) := by decide +kernel
theorem d_BN_shown_80 : decode b_BN_shown 80 = .ok (.athrow, 1) := by decide +kernel
theorem d_BN_shown_81 : decode b_BN_shown 81 = .ok (.iload_n 2, 1) := by decide +kernel
theorem d_BN_shown_82 : decode b_BN_shown 82 = .ok (.ifCond .ne 10, 3) := by decide +kernel
theorem d_BN_shown_85 : decode b_BN_shown 85 = .ok (.aload_n 3, 1) := by decide +kernel
theorem d_BN_shown_86 : decode b_BN_shown 86 = .ok (.getfield 317, 3) := by decide +kernel
theorem d_BN_shown_89 : decode b_BN_shown 89 = .ok (.goto 12, 3) := by decide +kernel
theorem d_BN_shown_92 : decode b_BN_shown 92 = .ok (.aload_n 0, 1) := by decide +kernel
theorem d_BN_shown_93 : decode b_BN_shown 93 = .ok (.getfield 138, 3) := by decide +kernel
theorem d_BN_shown_96 : decode b_BN_shown 96 = .ok (.aload_n 3, 1) := by decide +kernel
theorem d_BN_shown_97 : decode b_BN_shown 97 = .ok (.getfield 318, 3) := by decide +kernel
theorem d_BN_shown_100 : decode b_BN_shown 100 = .ok (.isub, 1) := by decide +kernel
theorem d_BN_shown_101 : decode b_BN_shown 101 = .ok (.ireturn, 1) := by decide +kernel
theorem d_BN_leastDeviceWith_0 : decode b_BN_leastDeviceWith 0 = .ok (.iconst 0, 1) := by decide +kernel
theorem d_BN_leastDeviceWith_1 : decode b_BN_leastDeviceWith 1 = .ok (.istore_n 3, 1) := by decide +kernel
theorem d_BN_leastDeviceWith_2 : decode b_BN_leastDeviceWith 2 = .ok (.iload_n 3, 1) := by decide +kernel
theorem d_BN_leastDeviceWith_3 : decode b_BN_leastDeviceWith 3 = .ok (.bipush 8, 2) := by decide +kernel
theorem d_BN_leastDeviceWith_5 : decode b_BN_leastDeviceWith 5 = .ok (.if_icmp .ge 50, 3) := by decide +kernel
theorem d_BN_leastDeviceWith_8 : decode b_BN_leastDeviceWith 8 = .ok (.aload_n 0, 1) := by decide +kernel
theorem d_BN_leastDeviceWith_9 : decode b_BN_leastDeviceWith 9 = .ok (.getfield 11, 3) := by decide +kernel
theorem d_BN_leastDeviceWith_12 : decode b_BN_leastDeviceWith 12 = .ok (.iload_n 3, 1) := by decide +kernel
theorem d_BN_leastDeviceWith_13 : decode b_BN_leastDeviceWith 13 = .ok (.aaload, 1) := by decide +kernel
theorem d_BN_leastDeviceWith_14 : decode b_BN_leastDeviceWith 14 = .ok (.getfield 120, 3) := by decide +kernel
theorem d_BN_leastDeviceWith_17 : decode b_BN_leastDeviceWith 17 = .ok (.iload_n 1, 1) := by decide +kernel
theorem d_BN_leastDeviceWith_18 : decode b_BN_leastDeviceWith 18 = .ok (.if_icmp .ne 31, 3) := by decide +kernel
theorem d_BN_leastDeviceWith_21 : decode b_BN_leastDeviceWith 21 = .ok (.aload_n 0, 1) := by decide +kernel
theorem d_BN_leastDeviceWith_22 : decode b_BN_leastDeviceWith 22 = .ok (.getfield 11, 3) := by decide +kernel
theorem d_BN_leastDeviceWith_25 : decode b_BN_leastDeviceWith 25 = .ok (.iload_n 3, 1) := by decide +kernel
theorem d_BN_leastDeviceWith_26 : decode b_BN_leastDeviceWith 26 = .ok (.aaload, 1) := by decide +kernel
theorem d_BN_leastDeviceWith_27 : decode b_BN_leastDeviceWith 27 = .ok (.getfield 123, 3) := by decide +kernel
theorem d_BN_leastDeviceWith_30 : decode b_BN_leastDeviceWith 30 = .ok (.ifCond .eq 19, 3) := by decide +kernel
theorem d_BN_leastDeviceWith_33 : decode b_BN_leastDeviceWith 33 = .ok (.aload_n 0, 1) := by decide +kernel
theorem d_BN_leastDeviceWith_34 : decode b_BN_leastDeviceWith 34 = .ok (.getfield 11, 3) := by decide +kernel
theorem d_BN_leastDeviceWith_37 : decode b_BN_leastDeviceWith 37 = .ok (.iload_n 3, 1) := by decide +kernel
theorem d_BN_leastDeviceWith_38 : decode b_BN_leastDeviceWith 38 = .ok (.aaload, 1) := by decide +kernel
theorem d_BN_leastDeviceWith_39 : decode b_BN_leastDeviceWith 39 = .ok (.iload_n 2, 1) := by decide +kernel
theorem d_BN_leastDeviceWith_40 : decode b_BN_leastDeviceWith 40 = .ok (.invokevirtual 304, 3) := by decide +kernel
theorem d_BN_leastDeviceWith_43 : decode b_BN_leastDeviceWith 43 = .ok (.iconst (-1), 1) := by decide +kernel
theorem d_BN_leastDeviceWith_44 : decode b_BN_leastDeviceWith 44 = .ok (.if_icmp .eq 5, 3) := by decide +kernel
theorem d_BN_leastDeviceWith_47 : decode b_BN_leastDeviceWith 47 = .ok (.iload_n 3, 1) := by decide +kernel
theorem d_BN_leastDeviceWith_48 : decode b_BN_leastDeviceWith 48 = .ok (.ireturn, 1) := by decide +kernel
theorem d_BN_leastDeviceWith_49 : decode b_BN_leastDeviceWith 49 = .ok (.iinc 3 1, 3) := by decide +kernel
theorem d_BN_leastDeviceWith_52 : decode b_BN_leastDeviceWith 52 = .ok (.goto (-50), 3) := by decide +kernel
theorem d_BN_leastDeviceWith_55 : decode b_BN_leastDeviceWith 55 = .ok (.iconst (-1), 1) := by decide +kernel
theorem d_BN_leastDeviceWith_56 : decode b_BN_leastDeviceWith 56 = .ok (.ireturn, 1) := by decide +kernel
theorem d_BN_acknowledge_0 : decode b_BN_acknowledge 0 = .ok (.iload_n 1, 1) := by decide +kernel
theorem d_BN_acknowledge_1 : decode b_BN_acknowledge 1 = .ok (.invokestatic 48, 3) := by decide +kernel
theorem d_BN_acknowledge_4 : decode b_BN_acknowledge 4 = .ok (.ifCond .eq 16, 3) := by decide +kernel
theorem d_BN_acknowledge_7 : decode b_BN_acknowledge 7 = .ok (.aload_n 0, 1) := by decide +kernel
theorem d_BN_acknowledge_8 : decode b_BN_acknowledge 8 = .ok (.getfield 11, 3) := by decide +kernel
theorem d_BN_acknowledge_11 : decode b_BN_acknowledge 11 = .ok (.iload_n 1, 1) := by decide +kernel
theorem d_BN_acknowledge_12 : decode b_BN_acknowledge 12 = .ok (.aaload, 1) := by decide +kernel
theorem d_BN_acknowledge_13 : decode b_BN_acknowledge 13 = .ok (.iload_n 2, 1) := by decide +kernel
theorem d_BN_acknowledge_14 : decode b_BN_acknowledge 14 = .ok (.invokevirtual 91, 3) := by decide +kernel
theorem d_BN_acknowledge_17 : decode b_BN_acknowledge 17 = .ok (.ifCond .ne 5, 3) := by decide +kernel
theorem d_BN_acknowledge_20 : decode b_BN_acknowledge 20 = .ok (.iconst 0, 1) := by decide +kernel
theorem d_BN_acknowledge_21 : decode b_BN_acknowledge 21 = .ok (.ireturn, 1) := by decide +kernel
theorem d_BN_acknowledge_22 : decode b_BN_acknowledge 22 = .ok (.aload_n 0, 1) := by decide +kernel
theorem d_BN_acknowledge_23 : decode b_BN_acknowledge 23 = .ok (.getfield 11, 3) := by decide +kernel
theorem d_BN_acknowledge_26 : decode b_BN_acknowledge 26 = .ok (.iload_n 1, 1) := by decide +kernel
theorem d_BN_acknowledge_27 : decode b_BN_acknowledge 27 = .ok (.aaload, 1) := by decide +kernel
theorem d_BN_acknowledge_28 : decode b_BN_acknowledge 28 = .ok (.getfield 82, 3) := by decide +kernel
theorem d_BN_acknowledge_31 : decode b_BN_acknowledge 31 = .ok (.iload_n 2, 1) := by decide +kernel
theorem d_BN_acknowledge_32 : decode b_BN_acknowledge 32 = .ok (.aaload, 1) := by decide +kernel
theorem d_BN_acknowledge_33 : decode b_BN_acknowledge 33 = .ok (.getfield 254, 3) := by decide +kernel
theorem d_BN_acknowledge_36 : decode b_BN_acknowledge 36 = .ok (.astore_n 3, 1) := by decide +kernel
theorem d_BN_acknowledge_37 : decode b_BN_acknowledge 37 = .ok (.aload_n 3, 1) := by decide +kernel
theorem d_BN_acknowledge_38 : decode b_BN_acknowledge 38 = .ok (.invokevirtual 319, 3) := by decide +kernel
theorem d_BN_acknowledge_41 : decode b_BN_acknowledge 41 = .ok (.ifCond .ne 5, 3) := by decide +kernel
theorem d_BN_acknowledge_44 : decode b_BN_acknowledge 44 = .ok (.iconst 0, 1) := by decide +kernel
theorem d_BN_acknowledge_45 : decode b_BN_acknowledge 45 = .ok (.ireturn, 1) := by decide +kernel
theorem d_BN_acknowledge_46 : decode b_BN_acknowledge 46 = .ok (.aload_n 3, 1) := by decide +kernel
theorem d_BN_acknowledge_47 : decode b_BN_acknowledge 47 = .ok (.iconst 1, 1) := by decide +kernel
theorem d_BN_acknowledge_48 : decode b_BN_acknowledge 48 = .ok (.putfield 322, 3) := by decide +kernel
theorem d_BN_acknowledge_51 : decode b_BN_acknowledge 51 = .ok (.aload_n 0, 1) := by decide +kernel
theorem d_BN_acknowledge_52 : decode b_BN_acknowledge 52 = .ok (.iconst 4, 1) := by decide +kernel
theorem d_BN_acknowledge_53 : decode b_BN_acknowledge 53 = .ok (.iload_n 1, 1) := by decide +kernel
theorem d_BN_acknowledge_54 : decode b_BN_acknowledge 54 = .ok (.iload_n 2, 1) := by decide +kernel
theorem d_BN_acknowledge_55 : decode b_BN_acknowledge 55 = .ok (.iconst 0, 1) := by decide +kernel
theorem d_BN_acknowledge_56 : decode b_BN_acknowledge 56 = .ok (.invokevirtual 174, 3) := by decide +kernel
theorem d_BN_acknowledge_59 : decode b_BN_acknowledge 59 = .ok (.iconst 1, 1) := by decide +kernel
theorem d_BN_acknowledge_60 : decode b_BN_acknowledge 60 = .ok (.ireturn, 1) := by decide +kernel
theorem d_BN_inhibit_0 : decode b_BN_inhibit 0 = .ok (.aload_n 0, 1) := by decide +kernel
theorem d_BN_inhibit_1 : decode b_BN_inhibit 1 = .ok (.iload_n 1, 1) := by decide +kernel
theorem d_BN_inhibit_2 : decode b_BN_inhibit 2 = .ok (.invokevirtual 117, 3) := by decide +kernel
theorem d_BN_inhibit_5 : decode b_BN_inhibit 5 = .ok (.ifCond .eq 23, 3) := by decide +kernel
theorem d_BN_inhibit_8 : decode b_BN_inhibit 8 = .ok (.aload_n 0, 1) := by decide +kernel
theorem d_BN_inhibit_9 : decode b_BN_inhibit 9 = .ok (.getfield 11, 3) := by decide +kernel
theorem d_BN_inhibit_12 : decode b_BN_inhibit 12 = .ok (.iload_n 1, 1) := by decide +kernel
theorem d_BN_inhibit_13 : decode b_BN_inhibit 13 = .ok (.aaload, 1) := by decide +kernel
theorem d_BN_inhibit_14 : decode b_BN_inhibit 14 = .ok (.iload_n 2, 1) := by decide +kernel
theorem d_BN_inhibit_15 : decode b_BN_inhibit 15 = .ok (.invokevirtual 91, 3) := by decide +kernel
theorem d_BN_inhibit_18 : decode b_BN_inhibit 18 = .ok (.ifCond .eq 10, 3) := by decide +kernel
theorem d_BN_inhibit_21 : decode b_BN_inhibit 21 = .ok (.iload_n 3, 1) := by decide +kernel
theorem d_BN_inhibit_22 : decode b_BN_inhibit 22 = .ok (.invokestatic 97, 3) := by decide +kernel
theorem d_BN_inhibit_25 : decode b_BN_inhibit 25 = .ok (.ifCond .ne 5, 3) := by decide +kernel
theorem d_BN_inhibit_28 : decode b_BN_inhibit 28 = .ok (.iconst 0, 1) := by decide +kernel
theorem d_BN_inhibit_29 : decode b_BN_inhibit 29 = .ok (.ireturn, 1) := by decide +kernel
theorem d_BN_inhibit_30 : decode b_BN_inhibit 30 = .ok (.aload_n 0, 1) := by decide +kernel
theorem d_BN_inhibit_31 : decode b_BN_inhibit 31 = .ok (.getfield 11, 3) := by decide +kernel
theorem d_BN_inhibit_34 : decode b_BN_inhibit 34 = .ok (.iload_n 1, 1) := by decide +kernel
theorem d_BN_inhibit_35 : decode b_BN_inhibit 35 = .ok (.aaload, 1) := by decide +kernel
theorem d_BN_inhibit_36 : decode b_BN_inhibit 36 = .ok (.getfield 82, 3) := by decide +kernel
theorem d_BN_inhibit_39 : decode b_BN_inhibit 39 = .ok (.iload_n 2, 1) := by decide +kernel
theorem d_BN_inhibit_40 : decode b_BN_inhibit 40 = .ok (.aaload, 1) := by decide +kernel
theorem d_BN_inhibit_41 : decode b_BN_inhibit 41 = .ok (.getfield 100, 3) := by decide +kernel
theorem d_BN_inhibit_44 : decode b_BN_inhibit 44 = .ok (.astore 4, 2) := by decide +kernel
theorem d_BN_inhibit_46 : decode b_BN_inhibit 46 = .ok (.aload 4, 2) := by decide +kernel
theorem d_BN_inhibit_48 : decode b_BN_inhibit 48 = .ok (.getfield 325, 3) := by decide +kernel
theorem d_BN_inhibit_51 : decode b_BN_inhibit 51 = .ok (.ifCond .ne 5, 3) := by decide +kernel
theorem d_BN_inhibit_54 : decode b_BN_inhibit 54 = .ok (.iconst 0, 1) := by decide +kernel
theorem d_BN_inhibit_55 : decode b_BN_inhibit 55 = .ok (.ireturn, 1) := by decide +kernel
theorem d_BN_inhibit_56 : decode b_BN_inhibit 56 = .ok (.aload 4, 2) := by decide +kernel
theorem d_BN_inhibit_58 : decode b_BN_inhibit 58 = .ok (.aload_n 0, 1) := by decide +kernel
theorem d_BN_inhibit_59 : decode b_BN_inhibit 59 = .ok (.getfield 138, 3) := by decide +kernel
theorem d_BN_inhibit_62 : decode b_BN_inhibit 62 = .ok (.iload_n 3, 1) := by decide +kernel
theorem d_BN_inhibit_63 : decode b_BN_inhibit 63 = .ok (.iadd, 1) := by decide +kernel
theorem d_BN_inhibit_64 : decode b_BN_inhibit 64 = .ok (.putfield 328, 3) := by decide +kernel
theorem d_BN_inhibit_67 : decode b_BN_inhibit 67 = .ok (.aload_n 0, 1) := by decide +kernel
theorem d_BN_inhibit_68 : decode b_BN_inhibit 68 = .ok (.invokevirtual 148, 3) := by decide +kernel
theorem d_BN_inhibit_71 : decode b_BN_inhibit 71 = .ok (.iconst 1, 1) := by decide +kernel
theorem d_BN_inhibit_72 : decode b_BN_inhibit 72 = .ok (.ireturn, 1) := by decide +kernel
theorem d_BN_lease_0 : decode b_BN_lease 0 = .ok (.iload_n 1, 1) := by decide +kernel
theorem d_BN_lease_1 : decode b_BN_lease 1 = .ok (.invokestatic 331, 3) := by decide +kernel
theorem d_BN_lease_4 : decode b_BN_lease 4 = .ok (.ifCond .eq 11, 3) := by decide +kernel
theorem d_BN_lease_7 : decode b_BN_lease 7 = .ok (.aload_n 0, 1) := by decide +kernel
theorem d_BN_lease_8 : decode b_BN_lease 8 = .ok (.iload_n 2, 1) := by decide +kernel
theorem d_BN_lease_9 : decode b_BN_lease 9 = .ok (.invokevirtual 334, 3) := by decide +kernel
theorem d_BN_lease_12 : decode b_BN_lease 12 = .ok (.ifCond .ne 5, 3) := by decide +kernel
theorem d_BN_lease_15 : decode b_BN_lease 15 = .ok (.iconst 0, 1) := by decide +kernel
theorem d_BN_lease_16 : decode b_BN_lease 16 = .ok (.ireturn, 1) := by decide +kernel
theorem d_BN_lease_17 : decode b_BN_lease 17 = .ok (.aload_n 0, 1) := by decide +kernel
theorem d_BN_lease_18 : decode b_BN_lease 18 = .ok (.getfield 11, 3) := by decide +kernel
theorem d_BN_lease_21 : decode b_BN_lease 21 = .ok (.iload_n 2, 1) := by decide +kernel
theorem d_BN_lease_22 : decode b_BN_lease 22 = .ok (.aaload, 1) := by decide +kernel
theorem d_BN_lease_23 : decode b_BN_lease 23 = .ok (.getfield 110, 3) := by decide +kernel
theorem d_BN_lease_26 : decode b_BN_lease 26 = .ok (.astore_n 3, 1) := by decide +kernel
theorem d_BN_lease_27 : decode b_BN_lease 27 = .ok (.aload_n 3, 1) := by decide +kernel
theorem d_BN_lease_28 : decode b_BN_lease 28 = .ok (.aload_n 0, 1) := by decide +kernel
theorem d_BN_lease_29 : decode b_BN_lease 29 = .ok (.getfield 138, 3) := by decide +kernel
theorem d_BN_lease_32 : decode b_BN_lease 32 = .ok (.invokevirtual 287, 3) := by decide +kernel
theorem d_BN_lease_35 : decode b_BN_lease 35 = .ok (.istore 4, 2) := by decide +kernel
theorem d_BN_lease_37 : decode b_BN_lease 37 = .ok (.iload 4, 2) := by decide +kernel
theorem d_BN_lease_39 : decode b_BN_lease 39 = .ok (.iconst (-1), 1) := by decide +kernel
theorem d_BN_lease_40 : decode b_BN_lease 40 = .ok (.if_icmp .eq 11, 3) := by decide +kernel
theorem d_BN_lease_43 : decode b_BN_lease 43 = .ok (.iload 4, 2) := by decide +kernel
theorem d_BN_lease_45 : decode b_BN_lease 45 = .ok (.iload_n 1, 1) := by decide +kernel
theorem d_BN_lease_46 : decode b_BN_lease 46 = .ok (.if_icmp .eq 5, 3) := by decide +kernel
theorem d_BN_lease_49 : decode b_BN_lease 49 = .ok (.iconst 0, 1) := by decide +kernel
theorem d_BN_lease_50 : decode b_BN_lease 50 = .ok (.ireturn, 1) := by decide +kernel
theorem d_BN_lease_51 : decode b_BN_lease 51 = .ok (.aload_n 3, 1) := by decide +kernel
theorem d_BN_lease_52 : decode b_BN_lease 52 = .ok (.iload_n 1, 1) := by decide +kernel
theorem d_BN_lease_53 : decode b_BN_lease 53 = .ok (.putfield 337, 3) := by decide +kernel
theorem d_BN_lease_56 : decode b_BN_lease 56 = .ok (.aload_n 3, 1) := by decide +kernel
theorem d_BN_lease_57 : decode b_BN_lease 57 = .ok (.aload_n 0, 1) := by decide +kernel
theorem d_BN_lease_58 : decode b_BN_lease 58 = .ok (.getfield 138, 3) := by decide +kernel
theorem d_BN_lease_61 : decode b_BN_lease 61 = .ok (.putfield 338, 3) := by decide +kernel
theorem d_BN_lease_64 : decode b_BN_lease 64 = .ok (.iconst 1, 1) := by decide +kernel
theorem d_BN_lease_65 : decode b_BN_lease 65 = .ok (.ireturn, 1) := by decide +kernel
theorem d_BN_order_0 : decode b_BN_order 0 = .ok (.iload_n 1, 1) := by decide +kernel
theorem d_BN_order_1 : decode b_BN_order 1 = .ok (.invokestatic 331, 3) := by decide +kernel
theorem d_BN_order_4 : decode b_BN_order 4 = .ok (.ifCond .eq 11, 3) := by decide +kernel
theorem d_BN_order_7 : decode b_BN_order 7 = .ok (.aload_n 0, 1) := by decide +kernel
theorem d_BN_order_8 : decode b_BN_order 8 = .ok (.iload_n 2, 1) := by decide +kernel
theorem d_BN_order_9 : decode b_BN_order 9 = .ok (.invokevirtual 334, 3) := by decide +kernel
theorem d_BN_order_12 : decode b_BN_order 12 = .ok (.ifCond .ne 11, 3) := by decide +kernel
theorem d_BN_order_15 : decode b_BN_order 15 = .ok (.new 73, 3) := by decide +kernel
theorem d_BN_order_18 : decode b_BN_order 18 = .ok (.dup, 1) := by decide +kernel
theorem d_BN_order_19 : decode b_BN_order 19 = .ok (.invokespecial 75, 3) := by decide +kernel
theorem d_BN_order_22 : decode b_BN_order 22 = .ok (.athrow, 1) := by decide +kernel
theorem d_BN_order_23 : decode b_BN_order 23 = .ok (.aload_n 0, 1) := by decide +kernel
theorem d_BN_order_24 : decode b_BN_order 24 = .ok (.getfield 341, 3) := by decide +kernel
theorem d_BN_order_27 : decode b_BN_order 27 = .ok (.bipush 100, 2) := by decide +kernel
theorem d_BN_order_29 : decode b_BN_order 29 = .ok (.if_icmp .lt 11, 3) := by decide +kernel
theorem d_BN_order_32 : decode b_BN_order 32 = .ok (.new 79, 3) := by decide +kernel
theorem d_BN_order_35 : decode b_BN_order 35 = .ok (.dup, 1) := by decide +kernel
theorem d_BN_order_36 : decode b_BN_order 36 = .ok (.invokespecial 81, 3) := by decide +kernel
theorem d_BN_order_39 : decode b_BN_order 39 = .ok (.athrow, 1) := by decide +kernel
theorem d_BN_order_40 : decode b_BN_order 40 = .ok (.aload_n 0, 1) := by decide +kernel
theorem d_BN_order_41 : decode b_BN_order 41 = .ok (.getfield 341, 3) := by decide +kernel
theorem d_BN_order_44 : decode b_BN_order 44 = .ok (.istore 5, 2) := by decide +kernel
theorem d_BN_order_46 : decode b_BN_order 46 = .ok (.aload_n 0, 1) := by decide +kernel
theorem d_BN_order_47 : decode b_BN_order 47 = .ok (.getfield 27, 3) := by decide +kernel
theorem d_BN_order_50 : decode b_BN_order 50 = .ok (.iload 5, 2) := by decide +kernel
theorem d_BN_order_52 : decode b_BN_order 52 = .ok (.aaload, 1) := by decide +kernel
theorem d_BN_order_53 : decode b_BN_order 53 = .ok (.iload_n 1, 1) := by decide +kernel
theorem d_BN_order_54 : decode b_BN_order 54 = .ok (.iload_n 3, 1) := by decide +kernel
theorem d_BN_order_55 : decode b_BN_order 55 = .ok (.iload 4, 2) := by decide +kernel
theorem d_BN_order_57 : decode b_BN_order 57 = .ok (.invokevirtual 344, 3) := by decide +kernel
theorem d_BN_order_60 : decode b_BN_order 60 = .ok (.aload_n 0, 1) := by decide +kernel
theorem d_BN_order_61 : decode b_BN_order 61 = .ok (.iload 5, 2) := by decide +kernel
theorem d_BN_order_63 : decode b_BN_order 63 = .ok (.iconst 1, 1) := by decide +kernel
theorem d_BN_order_64 : decode b_BN_order 64 = .ok (.iadd, 1) := by decide +kernel
theorem d_BN_order_65 : decode b_BN_order 65 = .ok (.putfield 341, 3) := by decide +kernel
theorem d_BN_order_68 : decode b_BN_order 68 = .ok (.aload_n 0, 1) := by decide +kernel
theorem d_BN_order_69 : decode b_BN_order 69 = .ok (.iconst 5, 1) := by decide +kernel
theorem d_BN_order_70 : decode b_BN_order 70 = .ok (.iload_n 2, 1) := by decide +kernel
theorem d_BN_order_71 : decode b_BN_order 71 = .ok (.iload 5, 2) := by decide +kernel
theorem d_BN_order_73 : decode b_BN_order 73 = .ok (.iconst 0, 1) := by decide +kernel
theorem d_BN_order_74 : decode b_BN_order 74 = .ok (.invokevirtual 174, 3) := by decide +kernel
theorem d_BN_order_77 : decode b_BN_order 77 = .ok (.iload 5, 2) := by decide +kernel
theorem d_BN_order_79 : decode b_BN_order 79 = .ok (.ireturn, 1) := by decide +kernel
theorem d_BN_local_0 : decode b_BN_local 0 = .ok (.aload_n 0, 1) := by decide +kernel
theorem d_BN_local_1 : decode b_BN_local 1 = .ok (.iload_n 1, 1) := by decide +kernel
theorem d_BN_local_2 : decode b_BN_local 2 = .ok (.invokevirtual 334, 3) := by decide +kernel
theorem d_BN_local_5 : decode b_BN_local 5 = .ok (.ifCond .ne 5, 3) := by decide +kernel
theorem d_BN_local_8 : decode b_BN_local 8 = .ok (.iconst 0, 1) := by decide +kernel
theorem d_BN_local_9 : decode b_BN_local 9 = .ok (.ireturn, 1) := by decide +kernel
theorem d_BN_local_10 : decode b_BN_local 10 = .ok (.aload_n 0, 1) := by decide +kernel
theorem d_BN_local_11 : decode b_BN_local 11 = .ok (.getfield 11, 3) := by decide +kernel
theorem d_BN_local_14 : decode b_BN_local 14 = .ok (.iload_n 1, 1) := by decide +kernel
theorem d_BN_local_15 : decode b_BN_local 15 = .ok (.aaload, 1) := by decide +kernel
theorem d_BN_local_16 : decode b_BN_local 16 = .ok (.getfield 110, 3) := by decide +kernel
theorem d_BN_local_19 : decode b_BN_local 19 = .ok (.astore 4, 2) := by decide +kernel
theorem d_BN_local_21 : decode b_BN_local 21 = .ok (.iload_n 2, 1) := by decide +kernel
theorem d_BN_local_22 : decode b_BN_local 22 = .ok (.iconst (-1), 1) := by decide +kernel
theorem d_BN_local_23 : decode b_BN_local 23 = .ok (.if_icmp .ne 11, 3) := by decide +kernel
theorem d_BN_local_26 : decode b_BN_local 26 = .ok (.aload 4, 2) := by decide +kernel
theorem d_BN_local_28 : decode b_BN_local 28 = .ok (.iload_n 3, 1) := by decide +kernel
theorem d_BN_local_29 : decode b_BN_local 29 = .ok (.putfield 293, 3) := by decide +kernel
theorem d_BN_local_32 : decode b_BN_local 32 = .ok (.iconst 1, 1) := by decide +kernel
theorem d_BN_local_33 : decode b_BN_local 33 = .ok (.ireturn, 1) := by decide +kernel
theorem d_BN_local_34 : decode b_BN_local 34 = .ok (.aload 4, 2) := by decide +kernel
theorem d_BN_local_36 : decode b_BN_local 36 = .ok (.getfield 293, 3) := by decide +kernel
theorem d_BN_local_39 : decode b_BN_local 39 = .ok (.ifCond .ne 15, 3) := by decide +kernel
theorem d_BN_local_42 : decode b_BN_local 42 = .ok (.aload 4, 2) := by decide +kernel
theorem d_BN_local_44 : decode b_BN_local 44 = .ok (.getfield 296, 3) := by decide +kernel
theorem d_BN_local_47 : decode b_BN_local 47 = .ok (.iload_n 2, 1) := by decide +kernel
theorem d_BN_local_48 : decode b_BN_local 48 = .ok (.invokevirtual 133, 3) := by decide +kernel
theorem d_BN_local_51 : decode b_BN_local 51 = .ok (.ifCond .ne 5, 3) := by decide +kernel
theorem d_BN_local_54 : decode b_BN_local 54 = .ok (.iconst 0, 1) := by decide +kernel
theorem d_BN_local_55 : decode b_BN_local 55 = .ok (.ireturn, 1) := by decide +kernel
theorem d_BN_local_56 : decode b_BN_local 56 = .ok (.aload 4, 2) := by decide +kernel
theorem d_BN_local_58 : decode b_BN_local 58 = .ok (.iload_n 2, 1) := by decide +kernel
theorem d_BN_local_59 : decode b_BN_local 59 = .ok (.putfield 286, 3) := by decide +kernel
theorem d_BN_local_62 : decode b_BN_local 62 = .ok (.iconst 1, 1) := by decide +kernel
theorem d_BN_local_63 : decode b_BN_local 63 = .ok (.ireturn, 1) := by decide +kernel
theorem d_BN_restart_0 : decode b_BN_restart 0 = .ok (.aload_n 0, 1) := by decide +kernel
theorem d_BN_restart_1 : decode b_BN_restart 1 = .ok (.iload_n 1, 1) := by decide +kernel
theorem d_BN_restart_2 : decode b_BN_restart 2 = .ok (.invokevirtual 117, 3) := by decide +kernel
theorem d_BN_restart_5 : decode b_BN_restart 5 = .ok (.ifCond .ne 5, 3) := by decide +kernel
theorem d_BN_restart_8 : decode b_BN_restart 8 = .ok (.iconst 0, 1) := by decide +kernel
theorem d_BN_restart_9 : decode b_BN_restart 9 = .ok (.ireturn, 1) := by decide +kernel
theorem d_BN_restart_10 : decode b_BN_restart 10 = .ok (.aload_n 0, 1) := by decide +kernel
theorem d_BN_restart_11 : decode b_BN_restart 11 = .ok (.getfield 11, 3) := by decide +kernel
theorem d_BN_restart_14 : decode b_BN_restart 14 = .ok (.iload_n 1, 1) := by decide +kernel
theorem d_BN_restart_15 : decode b_BN_restart 15 = .ok (.aaload, 1) := by decide +kernel
theorem d_BN_restart_16 : decode b_BN_restart 16 = .ok (.invokevirtual 347, 3) := by decide +kernel
theorem d_BN_restart_19 : decode b_BN_restart 19 = .ok (.iconst 1, 1) := by decide +kernel
theorem d_BN_restart_20 : decode b_BN_restart 20 = .ok (.ireturn, 1) := by decide +kernel
theorem d_BN_look_0 : decode b_BN_look 0 = .ok (.iload_n 1, 1) := by decide +kernel
theorem d_BN_look_1 : decode b_BN_look 1 = .ok (.invokestatic 48, 3) := by decide +kernel
theorem d_BN_look_4 : decode b_BN_look 4 = .ok (.ifCond .eq 7, 3) := by decide +kernel
theorem d_BN_look_7 : decode b_BN_look 7 = .ok (.iload_n 2, 1) := by decide +kernel
theorem d_BN_look_8 : decode b_BN_look 8 = .ok (.ifCond .ge 11, 3) := by decide +kernel
theorem d_BN_look_11 : decode b_BN_look 11 = .ok (.new 208, 3) := by decide +kernel
theorem d_BN_look_14 : decode b_BN_look 14 = .ok (.dup, 1) := by decide +kernel
theorem d_BN_look_15 : decode b_BN_look 15 = .ok (.invokespecial 210, 3) := by decide +kernel
theorem d_BN_look_18 : decode b_BN_look 18 = .ok (.athrow, 1) := by decide +kernel
theorem d_BN_look_19 : decode b_BN_look 19 = .ok (.iload_n 2, 1) := by decide +kernel
theorem d_BN_look_20 : decode b_BN_look 20 = .ok (.bipush 10, 2) := by decide +kernel
theorem d_BN_look_22 : decode b_BN_look 22 = .ok (.if_icmp .ge 15, 3) := by decide +kernel
theorem d_BN_look_25 : decode b_BN_look 25 = .ok (.aload_n 0, 1) := by decide +kernel
theorem d_BN_look_26 : decode b_BN_look 26 = .ok (.aload_n 0, 1) := by decide +kernel
theorem d_BN_look_27 : decode b_BN_look 27 = .ok (.getfield 11, 3) := by decide +kernel
theorem d_BN_look_30 : decode b_BN_look 30 = .ok (.iload_n 1, 1) := by decide +kernel
theorem d_BN_look_31 : decode b_BN_look 31 = .ok (.aaload, 1) := by decide +kernel
theorem d_BN_look_32 : decode b_BN_look 32 = .ok (.iload_n 2, 1) := by decide +kernel
theorem d_BN_look_33 : decode b_BN_look 33 = .ok (.invokevirtual 350, 3) := by decide +kernel
theorem d_BN_look_36 : decode b_BN_look 36 = .ok (.ireturn, 1) := by decide +kernel
theorem d_BN_look_37 : decode b_BN_look 37 = .ok (.iload_n 2, 1) := by decide +kernel
theorem d_BN_look_38 : decode b_BN_look 38 = .ok (.bipush 10, 2) := by decide +kernel
theorem d_BN_look_40 : decode b_BN_look 40 = .ok (.isub, 1) := by decide +kernel
theorem d_BN_look_41 : decode b_BN_look 41 = .ok (.bipush 8, 2) := by decide +kernel
theorem d_BN_look_43 : decode b_BN_look 43 = .ok (.idiv, 1) := by decide +kernel
theorem d_BN_look_44 : decode b_BN_look 44 = .ok (.istore_n 3, 1) := by decide +kernel
theorem d_BN_look_45 : decode b_BN_look 45 = .ok (.iload_n 2, 1) := by decide +kernel
theorem d_BN_look_46 : decode b_BN_look 46 = .ok (.bipush 10, 2) := by decide +kernel
theorem d_BN_look_48 : decode b_BN_look 48 = .ok (.isub, 1) := by decide +kernel
theorem d_BN_look_49 : decode b_BN_look 49 = .ok (.bipush 8, 2) := by decide +kernel
theorem d_BN_look_51 : decode b_BN_look 51 = .ok (.irem, 1) := by decide +kernel
theorem d_BN_look_52 : decode b_BN_look 52 = .ok (.istore 4, 2) := by decide +kernel
theorem d_BN_look_54 : decode b_BN_look 54 = .ok (.iload_n 3, 1) := by decide +kernel
theorem d_BN_look_55 : decode b_BN_look 55 = .ok (.iconst 4, 1) := by decide +kernel
theorem d_BN_look_56 : decode b_BN_look 56 = .ok (.if_icmp .ge 9, 3) := by decide +kernel
theorem d_BN_look_59 : decode b_BN_look 59 = .ok (.iload 4, 2) := by decide +kernel
theorem d_BN_look_61 : decode b_BN_look 61 = .ok (.iconst 5, 1) := by decide +kernel
theorem d_BN_look_62 : decode b_BN_look 62 = .ok (.if_icmp .lt 11, 3) := by decide +kernel
theorem d_BN_look_65 : decode b_BN_look 65 = .ok (.new 208, 3) := by decide +kernel
theorem d_BN_look_68 : decode b_BN_look 68 = .ok (.dup, 1) := by decide +kernel
theorem d_BN_look_69 : decode b_BN_look 69 = .ok (.invokespecial 210, 3) := by decide +kernel
theorem d_BN_look_72 : decode b_BN_look 72 = .ok (.athrow, 1) := by decide +kernel
theorem d_BN_look_73 : decode b_BN_look 73 = .ok (.aload_n 0, 1) := by decide +kernel
theorem d_BN_look_74 : decode b_BN_look 74 = .ok (.getfield 11, 3) := by decide +kernel
theorem d_BN_look_77 : decode b_BN_look 77 = .ok (.iload_n 1, 1) := by decide +kernel
theorem d_BN_look_78 : decode b_BN_look 78 = .ok (.aaload, 1) := by decide +kernel
theorem d_BN_look_79 : decode b_BN_look 79 = .ok (.iload_n 3, 1) := by decide +kernel
theorem d_BN_look_80 : decode b_BN_look 80 = .ok (.invokevirtual 91, 3) := by decide +kernel
theorem d_BN_look_83 : decode b_BN_look 83 = .ok (.ifCond .ne 5, 3) := by decide +kernel
theorem d_BN_look_86 : decode b_BN_look 86 = .ok (.iconst (-1), 1) := by decide +kernel
theorem d_BN_look_87 : decode b_BN_look 87 = .ok (.ireturn, 1) := by decide +kernel
theorem d_BN_look_88 : decode b_BN_look 88 = .ok (.aload_n 0, 1) := by decide +kernel
theorem d_BN_look_89 : decode b_BN_look 89 = .ok (.aload_n 0, 1) := by decide +kernel
theorem d_BN_look_90 : decode b_BN_look 90 = .ok (.getfield 11, 3) := by decide +kernel
theorem d_BN_look_93 : decode b_BN_look 93 = .ok (.iload_n 1, 1) := by decide +kernel
theorem d_BN_look_94 : decode b_BN_look 94 = .ok (.aaload, 1) := by decide +kernel
theorem d_BN_look_95 : decode b_BN_look 95 = .ok (.getfield 82, 3) := by decide +kernel
theorem d_BN_look_98 : decode b_BN_look 98 = .ok (.iload_n 3, 1) := by decide +kernel
theorem d_BN_look_99 : decode b_BN_look 99 = .ok (.aaload, 1) := by decide +kernel
theorem d_BN_look_100 : decode b_BN_look 100 = .ok (.iload 4, 2) := by decide +kernel
theorem d_BN_look_102 : decode b_BN_look 102 = .ok (.invokevirtual 354, 3) := by decide +kernel
theorem d_BN_look_105 : decode b_BN_look 105 = .ok (.ireturn, 1) := by decide +kernel
theorem d_BN_deviceFact_0 : decode b_BN_deviceFact 0 = .ok (.iload_n 2, 1) := by decide +kernel
theorem d_BN_deviceFact_1 : decode b_BN_deviceFact 1 = .ok (.tableswitch 143 0 8 #[51, 56, 61, 66, 71, 76, 93, 115, 127], 51) := by decide +kernel
theorem d_BN_deviceFact_52 : decode b_BN_deviceFact 52 = .ok (.aload_n 1, 1) := by decide +kernel
theorem d_BN_deviceFact_53 : decode b_BN_deviceFact 53 = .ok (.getfield 55, 3) := by decide +kernel
theorem d_BN_deviceFact_56 : decode b_BN_deviceFact 56 = .ok (.ireturn, 1) := by decide +kernel
theorem d_BN_deviceFact_57 : decode b_BN_deviceFact 57 = .ok (.aload_n 1, 1) := by decide +kernel
theorem d_BN_deviceFact_58 : decode b_BN_deviceFact 58 = .ok (.getfield 120, 3) := by decide +kernel
theorem d_BN_deviceFact_61 : decode b_BN_deviceFact 61 = .ok (.ireturn, 1) := by decide +kernel
theorem d_BN_deviceFact_62 : decode b_BN_deviceFact 62 = .ok (.aload_n 1, 1) := by decide +kernel
theorem d_BN_deviceFact_63 : decode b_BN_deviceFact 63 = .ok (.getfield 214, 3) := by decide +kernel
theorem d_BN_deviceFact_66 : decode b_BN_deviceFact 66 = .ok (.ireturn, 1) := by decide +kernel
theorem d_BN_deviceFact_67 : decode b_BN_deviceFact 67 = .ok (.aload_n 1, 1) := by decide +kernel
theorem d_BN_deviceFact_68 : decode b_BN_deviceFact 68 = .ok (.getfield 76, 3) := by decide +kernel
theorem d_BN_deviceFact_71 : decode b_BN_deviceFact 71 = .ok (.ireturn, 1) := by decide +kernel
theorem d_BN_deviceFact_72 : decode b_BN_deviceFact 72 = .ok (.aload_n 1, 1) := by decide +kernel
theorem d_BN_deviceFact_73 : decode b_BN_deviceFact 73 = .ok (.getfield 123, 3) := by decide +kernel
theorem d_BN_deviceFact_76 : decode b_BN_deviceFact 76 = .ok (.ireturn, 1) := by decide +kernel
theorem d_BN_deviceFact_77 : decode b_BN_deviceFact 77 = .ok (.aload_n 1, 1) := by decide +kernel
theorem d_BN_deviceFact_78 : decode b_BN_deviceFact 78 = .ok (.aload_n 0, 1) := by decide +kernel
theorem d_BN_deviceFact_79 : decode b_BN_deviceFact 79 = .ok (.getfield 138, 3) := by decide +kernel
theorem d_BN_deviceFact_82 : decode b_BN_deviceFact 82 = .ok (.invokevirtual 358, 3) := by decide +kernel
theorem d_BN_deviceFact_85 : decode b_BN_deviceFact 85 = .ok (.ifCond .eq 7, 3) := by decide +kernel
theorem d_BN_deviceFact_88 : decode b_BN_deviceFact 88 = .ok (.iconst 1, 1) := by decide +kernel
theorem d_BN_deviceFact_89 : decode b_BN_deviceFact 89 = .ok (.goto 4, 3) := by decide +kernel
theorem d_BN_deviceFact_92 : decode b_BN_deviceFact 92 = .ok (.iconst 0, 1) := by decide +kernel
theorem d_BN_deviceFact_93 : decode b_BN_deviceFact 93 = .ok (.ireturn, 1) := by decide +kernel
theorem d_BN_deviceFact_94 : decode b_BN_deviceFact 94 = .ok (.aload_n 1, 1) := by decide +kernel
theorem d_BN_deviceFact_95 : decode b_BN_deviceFact 95 = .ok (.getfield 110, 3) := by decide +kernel
theorem d_BN_deviceFact_98 : decode b_BN_deviceFact 98 = .ok (.getfield 361, 3) := by decide +kernel
theorem d_BN_deviceFact_101 : decode b_BN_deviceFact 101 = .ok (.ifCond .eq 13, 3) := by decide +kernel
theorem d_BN_deviceFact_104 : decode b_BN_deviceFact 104 = .ok (.aload_n 1, 1) := by decide +kernel
theorem d_BN_deviceFact_105 : decode b_BN_deviceFact 105 = .ok (.getfield 110, 3) := by decide +kernel
theorem d_BN_deviceFact_108 : decode b_BN_deviceFact 108 = .ok (.getfield 286, 3) := by decide +kernel
theorem d_BN_deviceFact_111 : decode b_BN_deviceFact 111 = .ok (.goto 4, 3) := by decide +kernel
theorem d_BN_deviceFact_114 : decode b_BN_deviceFact 114 = .ok (.iconst (-1), 1) := by decide +kernel
theorem d_BN_deviceFact_115 : decode b_BN_deviceFact 115 = .ok (.ireturn, 1) := by decide +kernel
theorem d_BN_deviceFact_116 : decode b_BN_deviceFact 116 = .ok (.aload_n 1, 1) := by decide +kernel
theorem d_BN_deviceFact_117 : decode b_BN_deviceFact 117 = .ok (.getfield 110, 3) := by decide +kernel
theorem d_BN_deviceFact_120 : decode b_BN_deviceFact 120 = .ok (.aload_n 0, 1) := by decide +kernel
theorem d_BN_deviceFact_121 : decode b_BN_deviceFact 121 = .ok (.getfield 138, 3) := by decide +kernel
theorem d_BN_deviceFact_124 : decode b_BN_deviceFact 124 = .ok (.invokevirtual 287, 3) := by decide +kernel
theorem d_BN_deviceFact_127 : decode b_BN_deviceFact 127 = .ok (.ireturn, 1) := by decide +kernel
theorem d_BN_deviceFact_128 : decode b_BN_deviceFact 128 = .ok (.aload_n 1, 1) := by decide +kernel
theorem d_BN_deviceFact_129 : decode b_BN_deviceFact 129 = .ok (.getfield 110, 3) := by decide +kernel
theorem d_BN_deviceFact_132 : decode b_BN_deviceFact 132 = .ok (.getfield 293, 3) := by decide +kernel
theorem d_BN_deviceFact_135 : decode b_BN_deviceFact 135 = .ok (.ifCond .eq 7, 3) := by decide +kernel
theorem d_BN_deviceFact_138 : decode b_BN_deviceFact 138 = .ok (.iconst 1, 1) := by decide +kernel
theorem d_BN_deviceFact_139 : decode b_BN_deviceFact 139 = .ok (.goto 4, 3) := by decide +kernel
theorem d_BN_deviceFact_142 : decode b_BN_deviceFact 142 = .ok (.iconst 0, 1) := by decide +kernel
theorem d_BN_deviceFact_143 : decode b_BN_deviceFact 143 = .ok (.ireturn, 1) := by decide +kernel
theorem d_BN_deviceFact_144 : decode b_BN_deviceFact 144 = .ok (.aload_n 1, 1) := by decide +kernel
theorem d_BN_deviceFact_145 : decode b_BN_deviceFact 145 = .ok (.getfield 110, 3) := by decide +kernel
theorem d_BN_deviceFact_148 : decode b_BN_deviceFact 148 = .ok (.getfield 361, 3) := by decide +kernel
theorem d_BN_deviceFact_151 : decode b_BN_deviceFact 151 = .ok (.ifCond .eq 7, 3) := by decide +kernel
theorem d_BN_deviceFact_154 : decode b_BN_deviceFact 154 = .ok (.iconst 1, 1) := by decide +kernel
theorem d_BN_deviceFact_155 : decode b_BN_deviceFact 155 = .ok (.goto 4, 3) := by decide +kernel
theorem d_BN_deviceFact_158 : decode b_BN_deviceFact 158 = .ok (.iconst 0, 1) := by decide +kernel
theorem d_BN_deviceFact_159 : decode b_BN_deviceFact 159 = .ok (.ireturn, 1) := by decide +kernel
theorem d_BN_channelFact_0 : decode b_BN_channelFact 0 = .ok (.iload_n 2, 1) := by decide +kernel
theorem d_BN_channelFact_1 : decode b_BN_channelFact 1 = .ok (.tableswitch 80 0 3 #[31, 39, 51, 64], 31) := by decide +kernel
theorem d_BN_channelFact_32 : decode b_BN_channelFact 32 = .ok (.aload_n 1, 1) := by decide +kernel
theorem d_BN_channelFact_33 : decode b_BN_channelFact 33 = .ok (.getfield 100, 3) := by decide +kernel
theorem d_BN_channelFact_36 : decode b_BN_channelFact 36 = .ok (.invokevirtual 362, 3) := by decide +kernel
theorem d_BN_channelFact_39 : decode b_BN_channelFact 39 = .ok (.ireturn, 1) := by decide +kernel
theorem d_BN_channelFact_40 : decode b_BN_channelFact 40 = .ok (.aload_n 1, 1) := by decide +kernel
theorem d_BN_channelFact_41 : decode b_BN_channelFact 41 = .ok (.getfield 100, 3) := by decide +kernel
theorem d_BN_channelFact_44 : decode b_BN_channelFact 44 = .ok (.aload_n 0, 1) := by decide +kernel
theorem d_BN_channelFact_45 : decode b_BN_channelFact 45 = .ok (.getfield 138, 3) := by decide +kernel
theorem d_BN_channelFact_48 : decode b_BN_channelFact 48 = .ok (.invokevirtual 366, 3) := by decide +kernel
theorem d_BN_channelFact_51 : decode b_BN_channelFact 51 = .ok (.ireturn, 1) := by decide +kernel
theorem d_BN_channelFact_52 : decode b_BN_channelFact 52 = .ok (.aload_n 1, 1) := by decide +kernel
theorem d_BN_channelFact_53 : decode b_BN_channelFact 53 = .ok (.getfield 369, 3) := by decide +kernel
theorem d_BN_channelFact_56 : decode b_BN_channelFact 56 = .ok (.ifCond .eq 7, 3) := by decide +kernel
theorem d_BN_channelFact_59 : decode b_BN_channelFact 59 = .ok (.iconst 1, 1) := by decide +kernel
theorem d_BN_channelFact_60 : decode b_BN_channelFact 60 = .ok (.goto 4, 3) := by decide +kernel
theorem d_BN_channelFact_63 : decode b_BN_channelFact 63 = .ok (.iconst 0, 1) := by decide +kernel
theorem d_BN_channelFact_64 : decode b_BN_channelFact 64 = .ok (.ireturn, 1) := by decide +kernel
theorem d_BN_channelFact_65 : decode b_BN_channelFact 65 = .ok (.aload_n 1, 1) := by decide +kernel
theorem d_BN_channelFact_66 : decode b_BN_channelFact 66 = .ok (.getfield 369, 3) := by decide +kernel
theorem d_BN_channelFact_69 : decode b_BN_channelFact 69 = .ok (.ifCond .eq 10, 3) := by decide +kernel
theorem d_BN_channelFact_72 : decode b_BN_channelFact 72 = .ok (.aload_n 1, 1) := by decide +kernel
theorem d_BN_channelFact_73 : decode b_BN_channelFact 73 = .ok (.getfield 220, 3) := by decide +kernel
theorem d_BN_channelFact_76 : decode b_BN_channelFact 76 = .ok (.goto 4, 3) := by decide +kernel
theorem d_BN_channelFact_79 : decode b_BN_channelFact 79 = .ok (.iconst (-1), 1) := by decide +kernel
theorem d_BN_channelFact_80 : decode b_BN_channelFact 80 = .ok (.ireturn, 1) := by decide +kernel
theorem d_BN_channelFact_81 : decode b_BN_channelFact 81 = .ok (.aload_n 1, 1) := by decide +kernel
theorem d_BN_channelFact_82 : decode b_BN_channelFact 82 = .ok (.getfield 254, 3) := by decide +kernel
theorem d_BN_channelFact_85 : decode b_BN_channelFact 85 = .ok (.invokevirtual 372, 3) := by decide +kernel
theorem d_BN_channelFact_88 : decode b_BN_channelFact 88 = .ok (.ireturn, 1) := by decide +kernel
theorem d_BN_count_0 : decode b_BN_count 0 = .ok (.iload_n 1, 1) := by decide +kernel
theorem d_BN_count_1 : decode b_BN_count 1 = .ok (.sipush 300, 3) := by decide +kernel
theorem d_BN_count_4 : decode b_BN_count 4 = .ok (.if_icmp .lt 29, 3) := by decide +kernel
theorem d_BN_count_7 : decode b_BN_count 7 = .ok (.iload_n 1, 1) := by decide +kernel
theorem d_BN_count_8 : decode b_BN_count 8 = .ok (.sipush 300, 3) := by decide +kernel
theorem d_BN_count_11 : decode b_BN_count 11 = .ok (.isub, 1) := by decide +kernel
theorem d_BN_count_12 : decode b_BN_count 12 = .ok (.invokestatic 52, 3) := by decide +kernel
theorem d_BN_count_15 : decode b_BN_count 15 = .ok (.ifCond .eq 16, 3) := by decide +kernel
theorem d_BN_count_18 : decode b_BN_count 18 = .ok (.aload_n 0, 1) := by decide +kernel
theorem d_BN_count_19 : decode b_BN_count 19 = .ok (.getfield 15, 3) := by decide +kernel
theorem d_BN_count_22 : decode b_BN_count 22 = .ok (.iload_n 1, 1) := by decide +kernel
theorem d_BN_count_23 : decode b_BN_count 23 = .ok (.sipush 300, 3) := by decide +kernel
theorem d_BN_count_26 : decode b_BN_count 26 = .ok (.isub, 1) := by decide +kernel
theorem d_BN_count_27 : decode b_BN_count 27 = .ok (.iaload, 1) := by decide +kernel
theorem d_BN_count_28 : decode b_BN_count 28 = .ok (.goto 4, 3) := by decide +kernel
theorem d_BN_count_31 : decode b_BN_count 31 = .ok (.iconst (-1), 1) := by decide +kernel
theorem d_BN_count_32 : decode b_BN_count 32 = .ok (.ireturn, 1) := by decide +kernel
theorem d_BN_count_33 : decode b_BN_count 33 = .ok (.iload_n 1, 1) := by decide +kernel
theorem d_BN_count_34 : decode b_BN_count 34 = .ok (.sipush 200, 3) := by decide +kernel
theorem d_BN_count_37 : decode b_BN_count 37 = .ok (.if_icmp .lt 39, 3) := by decide +kernel
theorem d_BN_count_40 : decode b_BN_count 40 = .ok (.iload_n 1, 1) := by decide +kernel
theorem d_BN_count_41 : decode b_BN_count 41 = .ok (.sipush 200, 3) := by decide +kernel
theorem d_BN_count_44 : decode b_BN_count 44 = .ok (.isub, 1) := by decide +kernel
theorem d_BN_count_45 : decode b_BN_count 45 = .ok (.aload_n 0, 1) := by decide +kernel
theorem d_BN_count_46 : decode b_BN_count 46 = .ok (.getfield 34, 3) := by decide +kernel
theorem d_BN_count_49 : decode b_BN_count 49 = .ok (.getfield 373, 3) := by decide +kernel
theorem d_BN_count_52 : decode b_BN_count 52 = .ok (.if_icmp .ge 22, 3) := by decide +kernel
theorem d_BN_count_55 : decode b_BN_count 55 = .ok (.aload_n 0, 1) := by decide +kernel
theorem d_BN_count_56 : decode b_BN_count 56 = .ok (.getfield 34, 3) := by decide +kernel
theorem d_BN_count_59 : decode b_BN_count 59 = .ok (.getfield 191, 3) := by decide +kernel
theorem d_BN_count_62 : decode b_BN_count 62 = .ok (.iload_n 1, 1) := by decide +kernel
theorem d_BN_count_63 : decode b_BN_count 63 = .ok (.sipush 200, 3) := by decide +kernel
theorem d_BN_count_66 : decode b_BN_count 66 = .ok (.isub, 1) := by decide +kernel
theorem d_BN_count_67 : decode b_BN_count 67 = .ok (.aaload, 1) := by decide +kernel
theorem d_BN_count_68 : decode b_BN_count 68 = .ok (.getfield 267, 3) := by decide +kernel
theorem d_BN_count_71 : decode b_BN_count 71 = .ok (.goto 4, 3) := by decide +kernel
theorem d_BN_count_74 : decode b_BN_count 74 = .ok (.iconst (-1), 1) := by decide +kernel
theorem d_BN_count_75 : decode b_BN_count 75 = .ok (.ireturn, 1) := by decide +kernel
theorem d_BN_count_76 : decode b_BN_count 76 = .ok (.iload_n 1, 1) := by decide +kernel
theorem d_BN_count_77 : decode b_BN_count 77 = .ok (.bipush 100, 2) := by decide +kernel
theorem d_BN_count_79 : decode b_BN_count 79 = .ok (.if_icmp .lt 31, 3) := by decide +kernel
theorem d_BN_count_82 : decode b_BN_count 82 = .ok (.iload_n 1, 1) := by decide +kernel
theorem d_BN_count_83 : decode b_BN_count 83 = .ok (.bipush 100, 2) := by decide +kernel
theorem d_BN_count_85 : decode b_BN_count 85 = .ok (.isub, 1) := by decide +kernel
theorem d_BN_count_86 : decode b_BN_count 86 = .ok (.aload_n 0, 1) := by decide +kernel
theorem d_BN_count_87 : decode b_BN_count 87 = .ok (.getfield 341, 3) := by decide +kernel
theorem d_BN_count_90 : decode b_BN_count 90 = .ok (.if_icmp .ge 18, 3) := by decide +kernel
theorem d_BN_count_93 : decode b_BN_count 93 = .ok (.aload_n 0, 1) := by decide +kernel
theorem d_BN_count_94 : decode b_BN_count 94 = .ok (.getfield 27, 3) := by decide +kernel
theorem d_BN_count_97 : decode b_BN_count 97 = .ok (.iload_n 1, 1) := by decide +kernel
theorem d_BN_count_98 : decode b_BN_count 98 = .ok (.bipush 100, 2) := by decide +kernel
theorem d_BN_count_100 : decode b_BN_count 100 = .ok (.isub, 1) := by decide +kernel
theorem d_BN_count_101 : decode b_BN_count 101 = .ok (.aaload, 1) := by decide +kernel
theorem d_BN_count_102 : decode b_BN_count 102 = .ok (.getfield 240, 3) := by decide +kernel
theorem d_BN_count_105 : decode b_BN_count 105 = .ok (.goto 4, 3) := by decide +kernel
theorem d_BN_count_108 : decode b_BN_count 108 = .ok (.iconst (-1), 1) := by decide +kernel
theorem d_BN_count_109 : decode b_BN_count 109 = .ok (.ireturn, 1) := by decide +kernel
theorem d_BN_count_110 : decode b_BN_count 110 = .ok (.iload_n 1, 1) := by decide +kernel
theorem d_BN_count_111 : decode b_BN_count 111 = .ok (.tableswitch 93 0 6 #[41, 46, 54, 62, 70, 75, 80], 41) := by decide +kernel
theorem d_BN_count_152 : decode b_BN_count 152 = .ok (.aload_n 0, 1) := by decide +kernel
theorem d_BN_count_153 : decode b_BN_count 153 = .ok (.getfield 138, 3) := by decide +kernel
theorem d_BN_count_156 : decode b_BN_count 156 = .ok (.ireturn, 1) := by decide +kernel
theorem d_BN_count_157 : decode b_BN_count 157 = .ok (.aload_n 0, 1) := by decide +kernel
theorem d_BN_count_158 : decode b_BN_count 158 = .ok (.getfield 34, 3) := by decide +kernel
theorem d_BN_count_161 : decode b_BN_count 161 = .ok (.getfield 152, 3) := by decide +kernel
theorem d_BN_count_164 : decode b_BN_count 164 = .ok (.ireturn, 1) := by decide +kernel
theorem d_BN_count_165 : decode b_BN_count 165 = .ok (.aload_n 0, 1) := by decide +kernel
theorem d_BN_count_166 : decode b_BN_count 166 = .ok (.getfield 34, 3) := by decide +kernel
theorem d_BN_count_169 : decode b_BN_count 169 = .ok (.getfield 373, 3) := by decide +kernel
theorem d_BN_count_172 : decode b_BN_count 172 = .ok (.ireturn, 1) := by decide +kernel
theorem d_BN_count_173 : decode b_BN_count 173 = .ok (.aload_n 0, 1) := by decide +kernel
theorem d_BN_count_174 : decode b_BN_count 174 = .ok (.getfield 34, 3) := by decide +kernel
theorem d_BN_count_177 : decode b_BN_count 177 = .ok (.getfield 376, 3) := by decide +kernel
theorem d_BN_count_180 : decode b_BN_count 180 = .ok (.ireturn, 1) := by decide +kernel
theorem d_BN_count_181 : decode b_BN_count 181 = .ok (.aload_n 0, 1) := by decide +kernel
theorem d_BN_count_182 : decode b_BN_count 182 = .ok (.getfield 247, 3) := by decide +kernel
theorem d_BN_count_185 : decode b_BN_count 185 = .ok (.ireturn, 1) := by decide +kernel
theorem d_BN_count_186 : decode b_BN_count 186 = .ok (.aload_n 0, 1) := by decide +kernel
theorem d_BN_count_187 : decode b_BN_count 187 = .ok (.getfield 341, 3) := by decide +kernel
theorem d_BN_count_190 : decode b_BN_count 190 = .ok (.ireturn, 1) := by decide +kernel
theorem d_BN_count_191 : decode b_BN_count 191 = .ok (.aload_n 0, 1) := by decide +kernel
theorem d_BN_count_192 : decode b_BN_count 192 = .ok (.invokevirtual 379, 3) := by decide +kernel
theorem d_BN_count_195 : decode b_BN_count 195 = .ok (.ifCond .eq 7, 3) := by decide +kernel
theorem d_BN_count_198 : decode b_BN_count 198 = .ok (.iconst 1, 1) := by decide +kernel
theorem d_BN_count_199 : decode b_BN_count 199 = .ok (.goto 4, 3) := by decide +kernel
theorem d_BN_count_202 : decode b_BN_count 202 = .ok (.iconst 0, 1) := by decide +kernel
theorem d_BN_count_203 : decode b_BN_count 203 = .ok (.ireturn, 1) := by decide +kernel
theorem d_BN_count_204 : decode b_BN_count 204 = .ok (.iconst (-1), 1) := by decide +kernel
theorem d_BN_count_205 : decode b_BN_count 205 = .ok (.ireturn, 1) := by decide +kernel
theorem d_BN_stationSounds_0 : decode b_BN_stationSounds 0 = .ok (.iconst 0, 1) := by decide +kernel
theorem d_BN_stationSounds_1 : decode b_BN_stationSounds 1 = .ok (.istore_n 1, 1) := by decide +kernel
theorem d_BN_stationSounds_2 : decode b_BN_stationSounds 2 = .ok (.iload_n 1, 1) := by decide +kernel
theorem d_BN_stationSounds_3 : decode b_BN_stationSounds 3 = .ok (.bipush 8, 2) := by decide +kernel
theorem d_BN_stationSounds_5 : decode b_BN_stationSounds 5 = .ok (.if_icmp .ge 23, 3) := by decide +kernel
theorem d_BN_stationSounds_8 : decode b_BN_stationSounds 8 = .ok (.aload_n 0, 1) := by decide +kernel
theorem d_BN_stationSounds_9 : decode b_BN_stationSounds 9 = .ok (.getfield 11, 3) := by decide +kernel
theorem d_BN_stationSounds_12 : decode b_BN_stationSounds 12 = .ok (.iload_n 1, 1) := by decide +kernel
theorem d_BN_stationSounds_13 : decode b_BN_stationSounds 13 = .ok (.aaload, 1) := by decide +kernel
theorem d_BN_stationSounds_14 : decode b_BN_stationSounds 14 = .ok (.invokevirtual 177, 3) := by decide +kernel
theorem d_BN_stationSounds_17 : decode b_BN_stationSounds 17 = .ok (.ifCond .eq 5, 3) := by decide +kernel
theorem d_BN_stationSounds_20 : decode b_BN_stationSounds 20 = .ok (.iconst 1, 1) := by decide +kernel
theorem d_BN_stationSounds_21 : decode b_BN_stationSounds 21 = .ok (.ireturn, 1) := by decide +kernel
theorem d_BN_stationSounds_22 : decode b_BN_stationSounds 22 = .ok (.iinc 1 1, 3) := by decide +kernel
theorem d_BN_stationSounds_25 : decode b_BN_stationSounds 25 = .ok (.goto (-23), 3) := by decide +kernel
theorem d_BN_stationSounds_28 : decode b_BN_stationSounds 28 = .ok (.iconst 0, 1) := by decide +kernel
theorem d_BN_stationSounds_29 : decode b_BN_stationSounds 29 = .ok (.ireturn, 1) := by decide +kernel
theorem d_BN_isDevice_0 : decode b_BN_isDevice 0 = .ok (.iload_n 0, 1) := by decide +kernel
theorem d_BN_isDevice_1 : decode b_BN_isDevice 1 = .ok (.ifCond .lt 13, 3) := by decide +kernel
theorem d_BN_isDevice_4 : decode b_BN_isDevice 4 = .ok (.iload_n 0, 1) := by decide +kernel
theorem d_BN_isDevice_5 : decode b_BN_isDevice 5 = .ok (.bipush 8, 2) := by decide +kernel
theorem d_BN_isDevice_7 : decode b_BN_isDevice 7 = .ok (.if_icmp .ge 7, 3) := by decide +kernel
theorem d_BN_isDevice_10 : decode b_BN_isDevice 10 = .ok (.iconst 1, 1) := by decide +kernel
theorem d_BN_isDevice_11 : decode b_BN_isDevice 11 = .ok (.goto 4, 3) := by decide +kernel
theorem d_BN_isDevice_14 : decode b_BN_isDevice 14 = .ok (.iconst 0, 1) := by decide +kernel
theorem d_BN_isDevice_15 : decode b_BN_isDevice 15 = .ok (.ireturn, 1) := by decide +kernel
theorem d_BN_isBed_0 : decode b_BN_isBed 0 = .ok (.iload_n 0, 1) := by decide +kernel
theorem d_BN_isBed_1 : decode b_BN_isBed 1 = .ok (.ifCond .lt 12, 3) := by decide +kernel
theorem d_BN_isBed_4 : decode b_BN_isBed 4 = .ok (.iload_n 0, 1) := by decide +kernel
theorem d_BN_isBed_5 : decode b_BN_isBed 5 = .ok (.iconst 4, 1) := by decide +kernel
theorem d_BN_isBed_6 : decode b_BN_isBed 6 = .ok (.if_icmp .ge 7, 3) := by decide +kernel
theorem d_BN_isBed_9 : decode b_BN_isBed 9 = .ok (.iconst 1, 1) := by decide +kernel
theorem d_BN_isBed_10 : decode b_BN_isBed 10 = .ok (.goto 4, 3) := by decide +kernel
theorem d_BN_isBed_13 : decode b_BN_isBed 13 = .ok (.iconst 0, 1) := by decide +kernel
theorem d_BN_isBed_14 : decode b_BN_isBed 14 = .ok (.ireturn, 1) := by decide +kernel
theorem d_BN_isUnit_0 : decode b_BN_isUnit 0 = .ok (.iload_n 0, 1) := by decide +kernel
theorem d_BN_isUnit_1 : decode b_BN_isUnit 1 = .ok (.ifCond .lt 13, 3) := by decide +kernel
theorem d_BN_isUnit_4 : decode b_BN_isUnit 4 = .ok (.iload_n 0, 1) := by decide +kernel
theorem d_BN_isUnit_5 : decode b_BN_isUnit 5 = .ok (.bipush 16, 2) := by decide +kernel
theorem d_BN_isUnit_7 : decode b_BN_isUnit 7 = .ok (.if_icmp .ge 7, 3) := by decide +kernel
theorem d_BN_isUnit_10 : decode b_BN_isUnit 10 = .ok (.iconst 1, 1) := by decide +kernel
theorem d_BN_isUnit_11 : decode b_BN_isUnit 11 = .ok (.goto 4, 3) := by decide +kernel
theorem d_BN_isUnit_14 : decode b_BN_isUnit 14 = .ok (.iconst 0, 1) := by decide +kernel
theorem d_BN_isUnit_15 : decode b_BN_isUnit 15 = .ok (.ireturn, 1) := by decide +kernel
theorem d_BN_isController_0 : decode b_BN_isController 0 = .ok (.iload_n 0, 1) := by decide +kernel
theorem d_BN_isController_1 : decode b_BN_isController 1 = .ok (.ifCond .lt 12, 3) := by decide +kernel
theorem d_BN_isController_4 : decode b_BN_isController 4 = .ok (.iload_n 0, 1) := by decide +kernel
theorem d_BN_isController_5 : decode b_BN_isController 5 = .ok (.iconst 4, 1) := by decide +kernel
theorem d_BN_isController_6 : decode b_BN_isController 6 = .ok (.if_icmp .ge 7, 3) := by decide +kernel
theorem d_BN_isController_9 : decode b_BN_isController 9 = .ok (.iconst 1, 1) := by decide +kernel
theorem d_BN_isController_10 : decode b_BN_isController 10 = .ok (.goto 4, 3) := by decide +kernel
theorem d_BN_isController_13 : decode b_BN_isController 13 = .ok (.iconst 0, 1) := by decide +kernel
theorem d_BN_isController_14 : decode b_BN_isController 14 = .ok (.ireturn, 1) := by decide +kernel
theorem d_BN_isNumber_0 : decode b_BN_isNumber 0 = .ok (.iload_n 0, 1) := by decide +kernel
theorem d_BN_isNumber_1 : decode b_BN_isNumber 1 = .ok (.ldc_w 382, 3) := by decide +kernel
theorem d_BN_isNumber_4 : decode b_BN_isNumber 4 = .ok (.if_icmp .lt 14, 3) := by decide +kernel
theorem d_BN_isNumber_7 : decode b_BN_isNumber 7 = .ok (.iload_n 0, 1) := by decide +kernel
theorem d_BN_isNumber_8 : decode b_BN_isNumber 8 = .ok (.ldc_w 383, 3) := by decide +kernel
theorem d_BN_isNumber_11 : decode b_BN_isNumber 11 = .ok (.if_icmp .gt 7, 3) := by decide +kernel
theorem d_BN_isNumber_14 : decode b_BN_isNumber 14 = .ok (.iconst 1, 1) := by decide +kernel
theorem d_BN_isNumber_15 : decode b_BN_isNumber 15 = .ok (.goto 4, 3) := by decide +kernel
theorem d_BN_isNumber_18 : decode b_BN_isNumber 18 = .ok (.iconst 0, 1) := by decide +kernel
theorem d_BN_isNumber_19 : decode b_BN_isNumber 19 = .ok (.ireturn, 1) := by decide +kernel
theorem d_BN_isSpan_0 : decode b_BN_isSpan 0 = .ok (.iload_n 0, 1) := by decide +kernel
theorem d_BN_isSpan_1 : decode b_BN_isSpan 1 = .ok (.ifCond .lt 14, 3) := by decide +kernel
theorem d_BN_isSpan_4 : decode b_BN_isSpan 4 = .ok (.iload_n 0, 1) := by decide +kernel
theorem d_BN_isSpan_5 : decode b_BN_isSpan 5 = .ok (.ldc_w 383, 3) := by decide +kernel
theorem d_BN_isSpan_8 : decode b_BN_isSpan 8 = .ok (.if_icmp .gt 7, 3) := by decide +kernel
theorem d_BN_isSpan_11 : decode b_BN_isSpan 11 = .ok (.iconst 1, 1) := by decide +kernel
theorem d_BN_isSpan_12 : decode b_BN_isSpan 12 = .ok (.goto 4, 3) := by decide +kernel
theorem d_BN_isSpan_15 : decode b_BN_isSpan 15 = .ok (.iconst 0, 1) := by decide +kernel
theorem d_BN_isSpan_16 : decode b_BN_isSpan 16 = .ok (.ireturn, 1) := by decide +kernel
theorem d_BN_isRange_0 : decode b_BN_isRange 0 = .ok (.iload_n 0, 1) := by decide +kernel
theorem d_BN_isRange_1 : decode b_BN_isRange 1 = .ok (.invokestatic 94, 3) := by decide +kernel
theorem d_BN_isRange_4 : decode b_BN_isRange 4 = .ok (.ifCond .eq 31, 3) := by decide +kernel
theorem d_BN_isRange_7 : decode b_BN_isRange 7 = .ok (.iload_n 1, 1) := by decide +kernel
theorem d_BN_isRange_8 : decode b_BN_isRange 8 = .ok (.invokestatic 94, 3) := by decide +kernel
theorem d_BN_isRange_11 : decode b_BN_isRange 11 = .ok (.ifCond .eq 24, 3) := by decide +kernel
theorem d_BN_isRange_14 : decode b_BN_isRange 14 = .ok (.iload_n 0, 1) := by decide +kernel
theorem d_BN_isRange_15 : decode b_BN_isRange 15 = .ok (.iload_n 1, 1) := by decide +kernel
theorem d_BN_isRange_16 : decode b_BN_isRange 16 = .ok (.if_icmp .gt 19, 3) := by decide +kernel
theorem d_BN_isRange_19 : decode b_BN_isRange 19 = .ok (.iload_n 2, 1) := by decide +kernel
theorem d_BN_isRange_20 : decode b_BN_isRange 20 = .ok (.iconst 1, 1) := by decide +kernel
theorem d_BN_isRange_21 : decode b_BN_isRange 21 = .ok (.if_icmp .lt 14, 3) := by decide +kernel
theorem d_BN_isRange_24 : decode b_BN_isRange 24 = .ok (.iload_n 2, 1) := by decide +kernel
theorem d_BN_isRange_25 : decode b_BN_isRange 25 = .ok (.ldc_w 383, 3) := by decide +kernel
theorem d_BN_isRange_28 : decode b_BN_isRange 28 = .ok (.if_icmp .gt 7, 3) := by decide +kernel
theorem d_BN_isRange_31 : decode b_BN_isRange 31 = .ok (.iconst 1, 1) := by decide +kernel
theorem d_BN_isRange_32 : decode b_BN_isRange 32 = .ok (.goto 4, 3) := by decide +kernel
theorem d_BN_isRange_35 : decode b_BN_isRange 35 = .ok (.iconst 0, 1) := by decide +kernel
theorem d_BN_isRange_36 : decode b_BN_isRange 36 = .ok (.ireturn, 1) := by decide +kernel
theorem d_BN_isOpen_0 : decode b_BN_isOpen 0 = .ok (.iload_n 1, 1) := by decide +kernel
theorem d_BN_isOpen_1 : decode b_BN_isOpen 1 = .ok (.invokestatic 48, 3) := by decide +kernel
theorem d_BN_isOpen_4 : decode b_BN_isOpen 4 = .ok (.ifCond .eq 20, 3) := by decide +kernel
theorem d_BN_isOpen_7 : decode b_BN_isOpen 7 = .ok (.aload_n 0, 1) := by decide +kernel
theorem d_BN_isOpen_8 : decode b_BN_isOpen 8 = .ok (.getfield 11, 3) := by decide +kernel
theorem d_BN_isOpen_11 : decode b_BN_isOpen 11 = .ok (.iload_n 1, 1) := by decide +kernel
theorem d_BN_isOpen_12 : decode b_BN_isOpen 12 = .ok (.aaload, 1) := by decide +kernel
theorem d_BN_isOpen_13 : decode b_BN_isOpen 13 = .ok (.getfield 55, 3) := by decide +kernel
theorem d_BN_isOpen_16 : decode b_BN_isOpen 16 = .ok (.iconst 1, 1) := by decide +kernel
theorem d_BN_isOpen_17 : decode b_BN_isOpen 17 = .ok (.if_icmp .ne 7, 3) := by decide +kernel
theorem d_BN_isOpen_20 : decode b_BN_isOpen 20 = .ok (.iconst 1, 1) := by decide +kernel
theorem d_BN_isOpen_21 : decode b_BN_isOpen 21 = .ok (.goto 4, 3) := by decide +kernel
theorem d_BN_isOpen_24 : decode b_BN_isOpen 24 = .ok (.iconst 0, 1) := by decide +kernel
theorem d_BN_isOpen_25 : decode b_BN_isOpen 25 = .ok (.ireturn, 1) := by decide +kernel
theorem d_BN_isSealed_0 : decode b_BN_isSealed 0 = .ok (.iload_n 1, 1) := by decide +kernel
theorem d_BN_isSealed_1 : decode b_BN_isSealed 1 = .ok (.invokestatic 48, 3) := by decide +kernel
theorem d_BN_isSealed_4 : decode b_BN_isSealed 4 = .ok (.ifCond .eq 20, 3) := by decide +kernel
theorem d_BN_isSealed_7 : decode b_BN_isSealed 7 = .ok (.aload_n 0, 1) := by decide +kernel
theorem d_BN_isSealed_8 : decode b_BN_isSealed 8 = .ok (.getfield 11, 3) := by decide +kernel
theorem d_BN_isSealed_11 : decode b_BN_isSealed 11 = .ok (.iload_n 1, 1) := by decide +kernel
theorem d_BN_isSealed_12 : decode b_BN_isSealed 12 = .ok (.aaload, 1) := by decide +kernel
theorem d_BN_isSealed_13 : decode b_BN_isSealed 13 = .ok (.getfield 55, 3) := by decide +kernel
theorem d_BN_isSealed_16 : decode b_BN_isSealed 16 = .ok (.iconst 2, 1) := by decide +kernel
theorem d_BN_isSealed_17 : decode b_BN_isSealed 17 = .ok (.if_icmp .ne 7, 3) := by decide +kernel
theorem d_BN_isSealed_20 : decode b_BN_isSealed 20 = .ok (.iconst 1, 1) := by decide +kernel
theorem d_BN_isSealed_21 : decode b_BN_isSealed 21 = .ok (.goto 4, 3) := by decide +kernel
theorem d_BN_isSealed_24 : decode b_BN_isSealed 24 = .ok (.iconst 0, 1) := by decide +kernel
theorem d_BN_isSealed_25 : decode b_BN_isSealed 25 = .ok (.ireturn, 1) := by decide +kernel
theorem d_BN_isSettable_0 : decode b_BN_isSettable 0 = .ok (.aload_n 0, 1) := by decide +kernel
theorem d_BN_isSettable_1 : decode b_BN_isSettable 1 = .ok (.iload_n 1, 1) := by decide +kernel
theorem d_BN_isSettable_2 : decode b_BN_isSettable 2 = .ok (.invokevirtual 117, 3) := by decide +kernel
theorem d_BN_isSettable_5 : decode b_BN_isSettable 5 = .ok (.ifCond .eq 22, 3) := by decide +kernel
theorem d_BN_isSettable_8 : decode b_BN_isSettable 8 = .ok (.aload_n 0, 1) := by decide +kernel
theorem d_BN_isSettable_9 : decode b_BN_isSettable 9 = .ok (.getfield 11, 3) := by decide +kernel
theorem d_BN_isSettable_12 : decode b_BN_isSettable 12 = .ok (.iload_n 1, 1) := by decide +kernel
theorem d_BN_isSettable_13 : decode b_BN_isSettable 13 = .ok (.aaload, 1) := by decide +kernel
theorem d_BN_isSettable_14 : decode b_BN_isSettable 14 = .ok (.getfield 110, 3) := by decide +kernel
theorem d_BN_isSettable_17 : decode b_BN_isSettable 17 = .ok (.getfield 361, 3) := by decide +kernel
theorem d_BN_isSettable_20 : decode b_BN_isSettable 20 = .ok (.ifCond .eq 7, 3) := by decide +kernel
theorem d_BN_isSettable_23 : decode b_BN_isSettable 23 = .ok (.iconst 1, 1) := by decide +kernel
theorem d_BN_isSettable_24 : decode b_BN_isSettable 24 = .ok (.goto 4, 3) := by decide +kernel
theorem d_BN_isSettable_27 : decode b_BN_isSettable 27 = .ok (.iconst 0, 1) := by decide +kernel
theorem d_BN_isSettable_28 : decode b_BN_isSettable 28 = .ok (.ireturn, 1) := by decide +kernel
theorem d_AL_init_0 : decode b_AL_init 0 = .ok (.aload_n 0, 1) := by decide +kernel
theorem d_AL_init_1 : decode b_AL_init 1 = .ok (.invokespecial 3, 3) := by decide +kernel
theorem d_AL_init_4 : decode b_AL_init 4 = .ok (.return_, 1) := by decide +kernel
theorem d_AL_describe_0 : decode b_AL_describe 0 = .ok (.aload_n 0, 1) := by decide +kernel
theorem d_AL_describe_1 : decode b_AL_describe 1 = .ok (.iconst 1, 1) := by decide +kernel
theorem d_AL_describe_2 : decode b_AL_describe 2 = .ok (.putfield 9, 3) := by decide +kernel
theorem d_AL_describe_5 : decode b_AL_describe 5 = .ok (.aload_n 0, 1) := by decide +kernel
theorem d_AL_describe_6 : decode b_AL_describe 6 = .ok (.iload_n 1, 1) := by decide +kernel
theorem d_AL_describe_7 : decode b_AL_describe 7 = .ok (.putfield 15, 3) := by decide +kernel
theorem d_AL_describe_10 : decode b_AL_describe 10 = .ok (.aload_n 0, 1) := by decide +kernel
theorem d_AL_describe_11 : decode b_AL_describe 11 = .ok (.iload_n 2, 1) := by decide +kernel
theorem d_AL_describe_12 : decode b_AL_describe 12 = .ok (.putfield 19, 3) := by decide +kernel
theorem d_AL_describe_15 : decode b_AL_describe 15 = .ok (.aload_n 0, 1) := by decide +kernel
theorem d_AL_describe_16 : decode b_AL_describe 16 = .ok (.iload_n 3, 1) := by decide +kernel
theorem d_AL_describe_17 : decode b_AL_describe 17 = .ok (.putfield 22, 3) := by decide +kernel
theorem d_AL_describe_20 : decode b_AL_describe 20 = .ok (.return_, 1) := by decide +kernel
theorem d_AL_watch_0 : decode b_AL_watch 0 = .ok (.aload_n 0, 1) := by decide +kernel
theorem d_AL_watch_1 : decode b_AL_watch 1 = .ok (.getfield 9, 3) := by decide +kernel
theorem d_AL_watch_4 : decode b_AL_watch 4 = .ok (.ifCond .eq 15, 3) := by decide +kernel
theorem d_AL_watch_7 : decode b_AL_watch 7 = .ok (.iload_n 1, 1) := by decide +kernel
theorem d_AL_watch_8 : decode b_AL_watch 8 = .ok (.aload_n 0, 1) := by decide +kernel
theorem d_AL_watch_9 : decode b_AL_watch 9 = .ok (.getfield 19, 3) := by decide +kernel
theorem d_AL_watch_12 : decode b_AL_watch 12 = .ok (.if_icmp .le 7, 3) := by decide +kernel
theorem d_AL_watch_15 : decode b_AL_watch 15 = .ok (.iconst 1, 1) := by decide +kernel
theorem d_AL_watch_16 : decode b_AL_watch 16 = .ok (.goto 4, 3) := by decide +kernel
theorem d_AL_watch_19 : decode b_AL_watch 19 = .ok (.iconst 0, 1) := by decide +kernel
theorem d_AL_watch_20 : decode b_AL_watch 20 = .ok (.istore_n 3, 1) := by decide +kernel
theorem d_AL_watch_21 : decode b_AL_watch 21 = .ok (.iload_n 3, 1) := by decide +kernel
theorem d_AL_watch_22 : decode b_AL_watch 22 = .ok (.ifCond .eq 15, 3) := by decide +kernel
theorem d_AL_watch_25 : decode b_AL_watch 25 = .ok (.aload_n 0, 1) := by decide +kernel
theorem d_AL_watch_26 : decode b_AL_watch 26 = .ok (.getfield 25, 3) := by decide +kernel
theorem d_AL_watch_29 : decode b_AL_watch 29 = .ok (.ifCond .ne 8, 3) := by decide +kernel
theorem d_AL_watch_32 : decode b_AL_watch 32 = .ok (.aload_n 0, 1) := by decide +kernel
theorem d_AL_watch_33 : decode b_AL_watch 33 = .ok (.iload_n 2, 1) := by decide +kernel
theorem d_AL_watch_34 : decode b_AL_watch 34 = .ok (.putfield 28, 3) := by decide +kernel
theorem d_AL_watch_37 : decode b_AL_watch 37 = .ok (.aload_n 0, 1) := by decide +kernel
theorem d_AL_watch_38 : decode b_AL_watch 38 = .ok (.iload_n 3, 1) := by decide +kernel
theorem d_AL_watch_39 : decode b_AL_watch 39 = .ok (.putfield 25, 3) := by decide +kernel
theorem d_AL_watch_42 : decode b_AL_watch 42 = .ok (.return_, 1) := by decide +kernel
theorem d_AL_forget_0 : decode b_AL_forget 0 = .ok (.aload_n 0, 1) := by decide +kernel
theorem d_AL_forget_1 : decode b_AL_forget 1 = .ok (.iconst 0, 1) := by decide +kernel
theorem d_AL_forget_2 : decode b_AL_forget 2 = .ok (.putfield 25, 3) := by decide +kernel
theorem d_AL_forget_5 : decode b_AL_forget 5 = .ok (.aload_n 0, 1) := by decide +kernel
theorem d_AL_forget_6 : decode b_AL_forget 6 = .ok (.iconst 0, 1) := by decide +kernel
theorem d_AL_forget_7 : decode b_AL_forget 7 = .ok (.putfield 31, 3) := by decide +kernel
theorem d_AL_forget_10 : decode b_AL_forget 10 = .ok (.aload_n 0, 1) := by decide +kernel
theorem d_AL_forget_11 : decode b_AL_forget 11 = .ok (.iconst 0, 1) := by decide +kernel
theorem d_AL_forget_12 : decode b_AL_forget 12 = .ok (.putfield 34, 3) := by decide +kernel
theorem d_AL_forget_15 : decode b_AL_forget 15 = .ok (.aload_n 0, 1) := by decide +kernel
theorem d_AL_forget_16 : decode b_AL_forget 16 = .ok (.iconst 0, 1) := by decide +kernel
theorem d_AL_forget_17 : decode b_AL_forget 17 = .ok (.putfield 37, 3) := by decide +kernel
theorem d_AL_forget_20 : decode b_AL_forget 20 = .ok (.return_, 1) := by decide +kernel
theorem d_AL_settle_0 : decode b_AL_settle 0 = .ok (.aload_n 0, 1) := by decide +kernel
theorem d_AL_settle_1 : decode b_AL_settle 1 = .ok (.getfield 25, 3) := by decide +kernel
theorem d_AL_settle_4 : decode b_AL_settle 4 = .ok (.ifCond .eq 15, 3) := by decide +kernel
theorem d_AL_settle_7 : decode b_AL_settle 7 = .ok (.iload_n 1, 1) := by decide +kernel
theorem d_AL_settle_8 : decode b_AL_settle 8 = .ok (.aload_n 0, 1) := by decide +kernel
theorem d_AL_settle_9 : decode b_AL_settle 9 = .ok (.getfield 31, 3) := by decide +kernel
theorem d_AL_settle_12 : decode b_AL_settle 12 = .ok (.if_icmp .lt 7, 3) := by decide +kernel
theorem d_AL_settle_15 : decode b_AL_settle 15 = .ok (.iconst 1, 1) := by decide +kernel
theorem d_AL_settle_16 : decode b_AL_settle 16 = .ok (.goto 4, 3) := by decide +kernel
theorem d_AL_settle_19 : decode b_AL_settle 19 = .ok (.iconst 0, 1) := by decide +kernel
theorem d_AL_settle_20 : decode b_AL_settle 20 = .ok (.istore_n 2, 1) := by decide +kernel
theorem d_AL_settle_21 : decode b_AL_settle 21 = .ok (.aload_n 0, 1) := by decide +kernel
theorem d_AL_settle_22 : decode b_AL_settle 22 = .ok (.getfield 34, 3) := by decide +kernel
theorem d_AL_settle_25 : decode b_AL_settle 25 = .ok (.ifCond .eq 36, 3) := by decide +kernel
theorem d_AL_settle_28 : decode b_AL_settle 28 = .ok (.iload_n 2, 1) := by decide +kernel
theorem d_AL_settle_29 : decode b_AL_settle 29 = .ok (.ifCond .ne 18, 3) := by decide +kernel
theorem d_AL_settle_32 : decode b_AL_settle 32 = .ok (.aload_n 0, 1) := by decide +kernel
theorem d_AL_settle_33 : decode b_AL_settle 33 = .ok (.getfield 15, 3) := by decide +kernel
theorem d_AL_settle_36 : decode b_AL_settle 36 = .ok (.iconst 1, 1) := by decide +kernel
theorem d_AL_settle_37 : decode b_AL_settle 37 = .ok (.if_icmp .ne 12, 3) := by decide +kernel
theorem d_AL_settle_40 : decode b_AL_settle 40 = .ok (.aload_n 0, 1) := by decide +kernel
theorem d_AL_settle_41 : decode b_AL_settle 41 = .ok (.getfield 37, 3) := by decide +kernel
theorem d_AL_settle_44 : decode b_AL_settle 44 = .ok (.ifCond .ne 5, 3) := by decide +kernel
theorem d_AL_settle_47 : decode b_AL_settle 47 = .ok (.iconst 0, 1) := by decide +kernel
theorem d_AL_settle_48 : decode b_AL_settle 48 = .ok (.ireturn, 1) := by decide +kernel
theorem d_AL_settle_49 : decode b_AL_settle 49 = .ok (.aload_n 0, 1) := by decide +kernel
theorem d_AL_settle_50 : decode b_AL_settle 50 = .ok (.iconst 0, 1) := by decide +kernel
theorem d_AL_settle_51 : decode b_AL_settle 51 = .ok (.putfield 34, 3) := by decide +kernel
theorem d_AL_settle_54 : decode b_AL_settle 54 = .ok (.aload_n 0, 1) := by decide +kernel
theorem d_AL_settle_55 : decode b_AL_settle 55 = .ok (.iconst 0, 1) := by decide +kernel
theorem d_AL_settle_56 : decode b_AL_settle 56 = .ok (.putfield 37, 3) := by decide +kernel
theorem d_AL_settle_59 : decode b_AL_settle 59 = .ok (.iconst 1, 1) := by decide +kernel
theorem d_AL_settle_60 : decode b_AL_settle 60 = .ok (.ireturn, 1) := by decide +kernel
theorem d_AL_settle_61 : decode b_AL_settle 61 = .ok (.iload_n 2, 1) := by decide +kernel
theorem d_AL_settle_62 : decode b_AL_settle 62 = .ok (.ifCond .eq 23, 3) := by decide +kernel
theorem d_AL_settle_65 : decode b_AL_settle 65 = .ok (.iload_n 1, 1) := by decide +kernel
theorem d_AL_settle_66 : decode b_AL_settle 66 = .ok (.aload_n 0, 1) := by decide +kernel
theorem d_AL_settle_67 : decode b_AL_settle 67 = .ok (.getfield 28, 3) := by decide +kernel
theorem d_AL_settle_70 : decode b_AL_settle 70 = .ok (.aload_n 0, 1) := by decide +kernel
theorem d_AL_settle_71 : decode b_AL_settle 71 = .ok (.getfield 31, 3) := by decide +kernel
theorem d_AL_settle_74 : decode b_AL_settle 74 = .ok (.invokestatic 40, 3) := by decide +kernel
theorem d_AL_settle_77 : decode b_AL_settle 77 = .ok (.isub, 1) := by decide +kernel
theorem d_AL_settle_78 : decode b_AL_settle 78 = .ok (.aload_n 0, 1) := by decide +kernel
theorem d_AL_settle_79 : decode b_AL_settle 79 = .ok (.getfield 22, 3) := by decide +kernel
theorem d_AL_settle_82 : decode b_AL_settle 82 = .ok (.if_icmp .ge 5, 3) := by decide +kernel
theorem d_AL_settle_85 : decode b_AL_settle 85 = .ok (.iconst 0, 1) := by decide +kernel
theorem d_AL_settle_86 : decode b_AL_settle 86 = .ok (.ireturn, 1) := by decide +kernel
theorem d_AL_settle_87 : decode b_AL_settle 87 = .ok (.aload_n 0, 1) := by decide +kernel
theorem d_AL_settle_88 : decode b_AL_settle 88 = .ok (.iconst 1, 1) := by decide +kernel
theorem d_AL_settle_89 : decode b_AL_settle 89 = .ok (.putfield 34, 3) := by decide +kernel
theorem d_AL_settle_92 : decode b_AL_settle 92 = .ok (.aload_n 0, 1) := by decide +kernel
theorem d_AL_settle_93 : decode b_AL_settle 93 = .ok (.iload_n 1, 1) := by decide +kernel
theorem d_AL_settle_94 : decode b_AL_settle 94 = .ok (.putfield 46, 3) := by decide +kernel
theorem d_AL_settle_97 : decode b_AL_settle 97 = .ok (.iconst 1, 1) := by decide +kernel
theorem d_AL_settle_98 : decode b_AL_settle 98 = .ok (.ireturn, 1) := by decide +kernel
theorem d_AL_hush_0 : decode b_AL_hush 0 = .ok (.aload_n 0, 1) := by decide +kernel
theorem d_AL_hush_1 : decode b_AL_hush 1 = .ok (.aload_n 0, 1) := by decide +kernel
theorem d_AL_hush_2 : decode b_AL_hush 2 = .ok (.getfield 34, 3) := by decide +kernel
theorem d_AL_hush_5 : decode b_AL_hush 5 = .ok (.putfield 37, 3) := by decide +kernel
theorem d_AL_hush_8 : decode b_AL_hush 8 = .ok (.return_, 1) := by decide +kernel
theorem d_AL_isLoud_0 : decode b_AL_isLoud 0 = .ok (.aload_n 0, 1) := by decide +kernel
theorem d_AL_isLoud_1 : decode b_AL_isLoud 1 = .ok (.getfield 34, 3) := by decide +kernel
theorem d_AL_isLoud_4 : decode b_AL_isLoud 4 = .ok (.ifCond .eq 14, 3) := by decide +kernel
theorem d_AL_isLoud_7 : decode b_AL_isLoud 7 = .ok (.aload_n 0, 1) := by decide +kernel
theorem d_AL_isLoud_8 : decode b_AL_isLoud 8 = .ok (.getfield 37, 3) := by decide +kernel
theorem d_AL_isLoud_11 : decode b_AL_isLoud 11 = .ok (.ifCond .ne 7, 3) := by decide +kernel
theorem d_AL_isLoud_14 : decode b_AL_isLoud 14 = .ok (.iconst 1, 1) := by decide +kernel
theorem d_AL_isLoud_15 : decode b_AL_isLoud 15 = .ok (.goto 4, 3) := by decide +kernel
theorem d_AL_isLoud_18 : decode b_AL_isLoud 18 = .ok (.iconst 0, 1) := by decide +kernel
theorem d_AL_isLoud_19 : decode b_AL_isLoud 19 = .ok (.ireturn, 1) := by decide +kernel
theorem d_AL_standing_0 : decode b_AL_standing 0 = .ok (.aload_n 0, 1) := by decide +kernel
theorem d_AL_standing_1 : decode b_AL_standing 1 = .ok (.getfield 9, 3) := by decide +kernel
theorem d_AL_standing_4 : decode b_AL_standing 4 = .ok (.ifCond .ne 5, 3) := by decide +kernel
theorem d_AL_standing_7 : decode b_AL_standing 7 = .ok (.iconst 0, 1) := by decide +kernel
theorem d_AL_standing_8 : decode b_AL_standing 8 = .ok (.ireturn, 1) := by decide +kernel
theorem d_AL_standing_9 : decode b_AL_standing 9 = .ok (.aload_n 0, 1) := by decide +kernel
theorem d_AL_standing_10 : decode b_AL_standing 10 = .ok (.getfield 34, 3) := by decide +kernel
theorem d_AL_standing_13 : decode b_AL_standing 13 = .ok (.ifCond .ne 5, 3) := by decide +kernel
theorem d_AL_standing_16 : decode b_AL_standing 16 = .ok (.iconst 1, 1) := by decide +kernel
theorem d_AL_standing_17 : decode b_AL_standing 17 = .ok (.ireturn, 1) := by decide +kernel
theorem d_AL_standing_18 : decode b_AL_standing 18 = .ok (.aload_n 0, 1) := by decide +kernel
theorem d_AL_standing_19 : decode b_AL_standing 19 = .ok (.getfield 37, 3) := by decide +kernel
theorem d_AL_standing_22 : decode b_AL_standing 22 = .ok (.ifCond .eq 7, 3) := by decide +kernel
theorem d_AL_standing_25 : decode b_AL_standing 25 = .ok (.iconst 3, 1) := by decide +kernel
theorem d_AL_standing_26 : decode b_AL_standing 26 = .ok (.goto 4, 3) := by decide +kernel
theorem d_AL_standing_29 : decode b_AL_standing 29 = .ok (.iconst 2, 1) := by decide +kernel
theorem d_AL_standing_30 : decode b_AL_standing 30 = .ok (.ireturn, 1) := by decide +kernel
theorem d_AL_levelAt_0 : decode b_AL_levelAt 0 = .ok (.aload_n 0, 1) := by decide +kernel
theorem d_AL_levelAt_1 : decode b_AL_levelAt 1 = .ok (.invokevirtual 49, 3) := by decide +kernel
theorem d_AL_levelAt_4 : decode b_AL_levelAt 4 = .ok (.ifCond .ne 5, 3) := by decide +kernel
theorem d_AL_levelAt_7 : decode b_AL_levelAt 7 = .ok (.iconst (-1), 1) := by decide +kernel
theorem d_AL_levelAt_8 : decode b_AL_levelAt 8 = .ok (.ireturn, 1) := by decide +kernel
theorem d_AL_levelAt_9 : decode b_AL_levelAt 9 = .ok (.sipush 2000, 3) := by decide +kernel
theorem d_AL_levelAt_12 : decode b_AL_levelAt 12 = .ok (.aload_n 0, 1) := by decide +kernel
theorem d_AL_levelAt_13 : decode b_AL_levelAt 13 = .ok (.getfield 15, 3) := by decide +kernel
theorem d_AL_levelAt_16 : decode b_AL_levelAt 16 = .ok (.imul, 1) := by decide +kernel
theorem d_AL_levelAt_17 : decode b_AL_levelAt 17 = .ok (.istore_n 2, 1) := by decide +kernel
theorem d_AL_levelAt_18 : decode b_AL_levelAt 18 = .ok (.iload_n 1, 1) := by decide +kernel
theorem d_AL_levelAt_19 : decode b_AL_levelAt 19 = .ok (.aload_n 0, 1) := by decide +kernel
theorem d_AL_levelAt_20 : decode b_AL_levelAt 20 = .ok (.getfield 46, 3) := by decide +kernel
theorem d_AL_levelAt_23 : decode b_AL_levelAt 23 = .ok (.isub, 1) := by decide +kernel
theorem d_AL_levelAt_24 : decode b_AL_levelAt 24 = .ok (.istore_n 3, 1) := by decide +kernel
theorem d_AL_levelAt_25 : decode b_AL_levelAt 25 = .ok (.iload_n 3, 1) := by decide +kernel
theorem d_AL_levelAt_26 : decode b_AL_levelAt 26 = .ok (.iload_n 2, 1) := by decide +kernel
theorem d_AL_levelAt_27 : decode b_AL_levelAt 27 = .ok (.if_icmp .ge 5, 3) := by decide +kernel
theorem d_AL_levelAt_30 : decode b_AL_levelAt 30 = .ok (.iconst 0, 1) := by decide +kernel
theorem d_AL_levelAt_31 : decode b_AL_levelAt 31 = .ok (.ireturn, 1) := by decide +kernel
theorem d_AL_levelAt_32 : decode b_AL_levelAt 32 = .ok (.iload_n 3, 1) := by decide +kernel
theorem d_AL_levelAt_33 : decode b_AL_levelAt 33 = .ok (.iconst 2, 1) := by decide +kernel
theorem d_AL_levelAt_34 : decode b_AL_levelAt 34 = .ok (.iload_n 2, 1) := by decide +kernel
theorem d_AL_levelAt_35 : decode b_AL_levelAt 35 = .ok (.imul, 1) := by decide +kernel
theorem d_AL_levelAt_36 : decode b_AL_levelAt 36 = .ok (.if_icmp .ge 5, 3) := by decide +kernel
theorem d_AL_levelAt_39 : decode b_AL_levelAt 39 = .ok (.iconst 1, 1) := by decide +kernel
theorem d_AL_levelAt_40 : decode b_AL_levelAt 40 = .ok (.ireturn, 1) := by decide +kernel
theorem d_AL_levelAt_41 : decode b_AL_levelAt 41 = .ok (.iload_n 3, 1) := by decide +kernel
theorem d_AL_levelAt_42 : decode b_AL_levelAt 42 = .ok (.iconst 4, 1) := by decide +kernel
theorem d_AL_levelAt_43 : decode b_AL_levelAt 43 = .ok (.iload_n 2, 1) := by decide +kernel
theorem d_AL_levelAt_44 : decode b_AL_levelAt 44 = .ok (.imul, 1) := by decide +kernel
theorem d_AL_levelAt_45 : decode b_AL_levelAt 45 = .ok (.if_icmp .ge 7, 3) := by decide +kernel
theorem d_AL_levelAt_48 : decode b_AL_levelAt 48 = .ok (.iconst 2, 1) := by decide +kernel
theorem d_AL_levelAt_49 : decode b_AL_levelAt 49 = .ok (.goto 4, 3) := by decide +kernel
theorem d_AL_levelAt_52 : decode b_AL_levelAt 52 = .ok (.iconst 3, 1) := by decide +kernel
theorem d_AL_levelAt_53 : decode b_AL_levelAt 53 = .ok (.ireturn, 1) := by decide +kernel
theorem d_CH_init_0 : decode b_CH_init 0 = .ok (.aload_n 0, 1) := by decide +kernel
theorem d_CH_init_1 : decode b_CH_init 1 = .ok (.invokespecial 3, 3) := by decide +kernel
theorem d_CH_init_4 : decode b_CH_init 4 = .ok (.aload_n 0, 1) := by decide +kernel
theorem d_CH_init_5 : decode b_CH_init 5 = .ok (.new 9, 3) := by decide +kernel
theorem d_CH_init_8 : decode b_CH_init 8 = .ok (.dup, 1) := by decide +kernel
theorem d_CH_init_9 : decode b_CH_init 9 = .ok (.invokespecial 11, 3) := by decide +kernel
theorem d_CH_init_12 : decode b_CH_init 12 = .ok (.putfield 12, 3) := by decide +kernel
theorem d_CH_init_15 : decode b_CH_init 15 = .ok (.aload_n 0, 1) := by decide +kernel
theorem d_CH_init_16 : decode b_CH_init 16 = .ok (.new 18, 3) := by decide +kernel
theorem d_CH_init_19 : decode b_CH_init 19 = .ok (.dup, 1) := by decide +kernel
theorem d_CH_init_20 : decode b_CH_init 20 = .ok (.invokespecial 20, 3) := by decide +kernel
theorem d_CH_init_23 : decode b_CH_init 23 = .ok (.putfield 21, 3) := by decide +kernel
theorem d_CH_init_26 : decode b_CH_init 26 = .ok (.aload_n 0, 1) := by decide +kernel
theorem d_CH_init_27 : decode b_CH_init 27 = .ok (.new 25, 3) := by decide +kernel
theorem d_CH_init_30 : decode b_CH_init 30 = .ok (.dup, 1) := by decide +kernel
theorem d_CH_init_31 : decode b_CH_init 31 = .ok (.invokespecial 27, 3) := by decide +kernel
theorem d_CH_init_34 : decode b_CH_init 34 = .ok (.putfield 28, 3) := by decide +kernel
theorem d_CH_init_37 : decode b_CH_init 37 = .ok (.aload_n 0, 1) := by decide +kernel
theorem d_CH_init_38 : decode b_CH_init 38 = .ok (.ldc 32, 2) := by decide +kernel
theorem d_CH_init_40 : decode b_CH_init 40 = .ok (.putfield 33, 3) := by decide +kernel
theorem d_CH_init_43 : decode b_CH_init 43 = .ok (.return_, 1) := by decide +kernel
theorem d_CH_begin_0 : decode b_CH_begin 0 = .ok (.aload_n 0, 1) := by decide +kernel
theorem d_CH_begin_1 : decode b_CH_begin 1 = .ok (.iload_n 1, 1) := by decide +kernel
theorem d_CH_begin_2 : decode b_CH_begin 2 = .ok (.putfield 37, 3) := by decide +kernel
theorem d_CH_begin_5 : decode b_CH_begin 5 = .ok (.aload_n 0, 1) := by decide +kernel
theorem d_CH_begin_6 : decode b_CH_begin 6 = .ok (.getfield 12, 3) := by decide +kernel
theorem d_CH_begin_9 : decode b_CH_begin 9 = .ok (.iload_n 2, 1) := by decide +kernel
theorem d_CH_begin_10 : decode b_CH_begin 10 = .ok (.iload_n 3, 1) := by decide +kernel
theorem d_CH_begin_11 : decode b_CH_begin 11 = .ok (.iload 4, 2) := by decide +kernel
theorem d_CH_begin_13 : decode b_CH_begin 13 = .ok (.invokevirtual 40, 3) := by decide +kernel
theorem d_CH_begin_16 : decode b_CH_begin 16 = .ok (.aload_n 0, 1) := by decide +kernel
theorem d_CH_begin_17 : decode b_CH_begin 17 = .ok (.getfield 21, 3) := by decide +kernel
theorem d_CH_begin_20 : decode b_CH_begin 20 = .ok (.iconst 0, 1) := by decide +kernel
theorem d_CH_begin_21 : decode b_CH_begin 21 = .ok (.putfield 44, 3) := by decide +kernel
theorem d_CH_begin_24 : decode b_CH_begin 24 = .ok (.return_, 1) := by decide +kernel
theorem d_CH_measure_0 : decode b_CH_measure 0 = .ok (.aload_n 0, 1) := by decide +kernel
theorem d_CH_measure_1 : decode b_CH_measure 1 = .ok (.iconst 1, 1) := by decide +kernel
theorem d_CH_measure_2 : decode b_CH_measure 2 = .ok (.putfield 48, 3) := by decide +kernel
theorem d_CH_measure_5 : decode b_CH_measure 5 = .ok (.aload_n 0, 1) := by decide +kernel
theorem d_CH_measure_6 : decode b_CH_measure 6 = .ok (.iload_n 1, 1) := by decide +kernel
theorem d_CH_measure_7 : decode b_CH_measure 7 = .ok (.putfield 51, 3) := by decide +kernel
theorem d_CH_measure_10 : decode b_CH_measure 10 = .ok (.aload_n 0, 1) := by decide +kernel
theorem d_CH_measure_11 : decode b_CH_measure 11 = .ok (.iload_n 2, 1) := by decide +kernel
theorem d_CH_measure_12 : decode b_CH_measure 12 = .ok (.putfield 54, 3) := by decide +kernel
theorem d_CH_measure_15 : decode b_CH_measure 15 = .ok (.aload_n 0, 1) := by decide +kernel
theorem d_CH_measure_16 : decode b_CH_measure 16 = .ok (.iconst 1, 1) := by decide +kernel
theorem d_CH_measure_17 : decode b_CH_measure 17 = .ok (.putfield 57, 3) := by decide +kernel
theorem d_CH_measure_20 : decode b_CH_measure 20 = .ok (.aload_n 0, 1) := by decide +kernel
theorem d_CH_measure_21 : decode b_CH_measure 21 = .ok (.getfield 21, 3) := by decide +kernel
theorem d_CH_measure_24 : decode b_CH_measure 24 = .ok (.iload_n 1, 1) := by decide +kernel
theorem d_CH_measure_25 : decode b_CH_measure 25 = .ok (.iload_n 2, 1) := by decide +kernel
theorem d_CH_measure_26 : decode b_CH_measure 26 = .ok (.invokevirtual 60, 3) := by decide +kernel
theorem d_CH_measure_29 : decode b_CH_measure 29 = .ok (.return_, 1) := by decide +kernel
theorem d_CH_forget_0 : decode b_CH_forget 0 = .ok (.aload_n 0, 1) := by decide +kernel
theorem d_CH_forget_1 : decode b_CH_forget 1 = .ok (.iconst 0, 1) := by decide +kernel
theorem d_CH_forget_2 : decode b_CH_forget 2 = .ok (.putfield 48, 3) := by decide +kernel
theorem d_CH_forget_5 : decode b_CH_forget 5 = .ok (.aload_n 0, 1) := by decide +kernel
theorem d_CH_forget_6 : decode b_CH_forget 6 = .ok (.getfield 21, 3) := by decide +kernel
theorem d_CH_forget_9 : decode b_CH_forget 9 = .ok (.invokevirtual 64, 3) := by decide +kernel
theorem d_CH_forget_12 : decode b_CH_forget 12 = .ok (.return_, 1) := by decide +kernel
theorem d_DE_init_0 : decode b_DE_init 0 = .ok (.aload_n 0, 1) := by decide +kernel
theorem d_DE_init_1 : decode b_DE_init 1 = .ok (.invokespecial 3, 3) := by decide +kernel
theorem d_DE_init_4 : decode b_DE_init 4 = .ok (.aload_n 0, 1) := by decide +kernel
theorem d_DE_init_5 : decode b_DE_init 5 = .ok (.iconst 4, 1) := by decide +kernel
theorem d_DE_init_6 : decode b_DE_init 6 = .ok (.anewarray 9, 3) := by decide +kernel
theorem d_DE_init_9 : decode b_DE_init 9 = .ok (.putfield 11, 3) := by decide +kernel
theorem d_DE_init_12 : decode b_DE_init 12 = .ok (.aload_n 0, 1) := by decide +kernel
theorem d_DE_init_13 : decode b_DE_init 13 = .ok (.new 17, 3) := by decide +kernel
theorem d_DE_init_16 : decode b_DE_init 16 = .ok (.dup, 1) := by decide +kernel
theorem d_DE_init_17 : decode b_DE_init 17 = .ok (.invokespecial 19, 3) := by decide +kernel
theorem d_DE_init_20 : decode b_DE_init 20 = .ok (.putfield 20, 3) := by decide +kernel
theorem d_DE_init_23 : decode b_DE_init 23 = .ok (.aload_n 0, 1) := by decide +kernel
theorem d_DE_init_24 : decode b_DE_init 24 = .ok (.iconst 0, 1) := by decide +kernel
theorem d_DE_init_25 : decode b_DE_init 25 = .ok (.putfield 24, 3) := by decide +kernel
theorem d_DE_init_28 : decode b_DE_init 28 = .ok (.aload_n 0, 1) := by decide +kernel
theorem d_DE_init_29 : decode b_DE_init 29 = .ok (.iconst (-1), 1) := by decide +kernel
theorem d_DE_init_30 : decode b_DE_init 30 = .ok (.putfield 28, 3) := by decide +kernel
theorem d_DE_init_33 : decode b_DE_init 33 = .ok (.aload_n 0, 1) := by decide +kernel
theorem d_DE_init_34 : decode b_DE_init 34 = .ok (.iconst 1, 1) := by decide +kernel
theorem d_DE_init_35 : decode b_DE_init 35 = .ok (.putfield 31, 3) := by decide +kernel
theorem d_DE_init_38 : decode b_DE_init 38 = .ok (.aload_n 0, 1) := by decide +kernel
theorem d_DE_init_39 : decode b_DE_init 39 = .ok (.ldc 34, 2) := by decide +kernel
theorem d_DE_init_41 : decode b_DE_init 41 = .ok (.putfield 35, 3) := by decide +kernel
theorem d_DE_init_44 : decode b_DE_init 44 = .ok (.aload_n 0, 1) := by decide +kernel
theorem d_DE_init_45 : decode b_DE_init 45 = .ok (.ldc 34, 2) := by decide +kernel
theorem d_DE_init_47 : decode b_DE_init 47 = .ok (.putfield 38, 3) := by decide +kernel
theorem d_DE_init_50 : decode b_DE_init 50 = .ok (.iconst 0, 1) := by decide +kernel
theorem d_DE_init_51 : decode b_DE_init 51 = .ok (.istore_n 1, 1) := by decide +kernel
theorem d_DE_init_52 : decode b_DE_init 52 = .ok (.iload_n 1, 1) := by decide +kernel
theorem d_DE_init_53 : decode b_DE_init 53 = .ok (.iconst 4, 1) := by decide +kernel
theorem d_DE_init_54 : decode b_DE_init 54 = .ok (.if_icmp .ge 22, 3) := by decide +kernel
theorem d_DE_init_57 : decode b_DE_init 57 = .ok (.aload_n 0, 1) := by decide +kernel
theorem d_DE_init_58 : decode b_DE_init 58 = .ok (.getfield 11, 3) := by decide +kernel
theorem d_DE_init_61 : decode b_DE_init 61 = .ok (.iload_n 1, 1) := by decide +kernel
theorem d_DE_init_62 : decode b_DE_init 62 = .ok (.new 9, 3) := by decide +kernel
theorem d_DE_init_65 : decode b_DE_init 65 = .ok (.dup, 1) := by decide +kernel
theorem d_DE_init_66 : decode b_DE_init 66 = .ok (.invokespecial 41, 3) := by decide +kernel
theorem d_DE_init_69 : decode b_DE_init 69 = .ok (.aastore, 1) := by decide +kernel
theorem d_DE_init_70 : decode b_DE_init 70 = .ok (.iinc 1 1, 3) := by decide +kernel
theorem d_DE_init_73 : decode b_DE_init 73 = .ok (.goto (-21), 3) := by decide +kernel
theorem d_DE_init_76 : decode b_DE_init 76 = .ok (.return_, 1) := by decide +kernel
theorem d_DE_begin_0 : decode b_DE_begin 0 = .ok (.aload_n 0, 1) := by decide +kernel
theorem d_DE_begin_1 : decode b_DE_begin 1 = .ok (.iconst 1, 1) := by decide +kernel
theorem d_DE_begin_2 : decode b_DE_begin 2 = .ok (.putfield 24, 3) := by decide +kernel
theorem d_DE_begin_5 : decode b_DE_begin 5 = .ok (.aload_n 0, 1) := by decide +kernel
theorem d_DE_begin_6 : decode b_DE_begin 6 = .ok (.iload_n 1, 1) := by decide +kernel
theorem d_DE_begin_7 : decode b_DE_begin 7 = .ok (.putfield 28, 3) := by decide +kernel
theorem d_DE_begin_10 : decode b_DE_begin 10 = .ok (.aload_n 0, 1) := by decide +kernel
theorem d_DE_begin_11 : decode b_DE_begin 11 = .ok (.iconst 0, 1) := by decide +kernel
theorem d_DE_begin_12 : decode b_DE_begin 12 = .ok (.putfield 42, 3) := by decide +kernel
theorem d_DE_begin_15 : decode b_DE_begin 15 = .ok (.aload_n 0, 1) := by decide +kernel
theorem d_DE_begin_16 : decode b_DE_begin 16 = .ok (.getfield 20, 3) := by decide +kernel
theorem d_DE_begin_19 : decode b_DE_begin 19 = .ok (.iconst 0, 1) := by decide +kernel
theorem d_DE_begin_20 : decode b_DE_begin 20 = .ok (.putfield 45, 3) := by decide +kernel
theorem d_DE_begin_23 : decode b_DE_begin 23 = .ok (.return_, 1) := by decide +kernel
theorem d_DE_beginLife_0 : decode b_DE_beginLife 0 = .ok (.aload_n 0, 1) := by decide +kernel
theorem d_DE_beginLife_1 : decode b_DE_beginLife 1 = .ok (.dup, 1) := by decide +kernel
theorem d_DE_beginLife_2 : decode b_DE_beginLife 2 = .ok (.getfield 31, 3) := by decide +kernel
theorem d_DE_beginLife_5 : decode b_DE_beginLife 5 = .ok (.iconst 1, 1) := by decide +kernel
theorem d_DE_beginLife_6 : decode b_DE_beginLife 6 = .ok (.iadd, 1) := by decide +kernel
theorem d_DE_beginLife_7 : decode b_DE_beginLife 7 = .ok (.putfield 31, 3) := by decide +kernel
theorem d_DE_beginLife_10 : decode b_DE_beginLife 10 = .ok (.aload_n 0, 1) := by decide +kernel
theorem d_DE_beginLife_11 : decode b_DE_beginLife 11 = .ok (.iconst 0, 1) := by decide +kernel
theorem d_DE_beginLife_12 : decode b_DE_beginLife 12 = .ok (.putfield 49, 3) := by decide +kernel
theorem d_DE_beginLife_15 : decode b_DE_beginLife 15 = .ok (.aload_n 0, 1) := by decide +kernel
theorem d_DE_beginLife_16 : decode b_DE_beginLife 16 = .ok (.ldc 34, 2) := by decide +kernel
theorem d_DE_beginLife_18 : decode b_DE_beginLife 18 = .ok (.putfield 35, 3) := by decide +kernel
theorem d_DE_beginLife_21 : decode b_DE_beginLife 21 = .ok (.aload_n 0, 1) := by decide +kernel
theorem d_DE_beginLife_22 : decode b_DE_beginLife 22 = .ok (.getfield 20, 3) := by decide +kernel
theorem d_DE_beginLife_25 : decode b_DE_beginLife 25 = .ok (.ldc 34, 2) := by decide +kernel
theorem d_DE_beginLife_27 : decode b_DE_beginLife 27 = .ok (.putfield 52, 3) := by decide +kernel
theorem d_DE_beginLife_30 : decode b_DE_beginLife 30 = .ok (.aload_n 0, 1) := by decide +kernel
theorem d_DE_beginLife_31 : decode b_DE_beginLife 31 = .ok (.getfield 20, 3) := by decide +kernel
theorem d_DE_beginLife_34 : decode b_DE_beginLife 34 = .ok (.iconst 0, 1) := by decide +kernel
theorem d_DE_beginLife_35 : decode b_DE_beginLife 35 = .ok (.putfield 55, 3) := by decide +kernel
theorem d_DE_beginLife_38 : decode b_DE_beginLife 38 = .ok (.iconst 0, 1) := by decide +kernel
theorem d_DE_beginLife_39 : decode b_DE_beginLife 39 = .ok (.istore_n 1, 1) := by decide +kernel
theorem d_DE_beginLife_40 : decode b_DE_beginLife 40 = .ok (.iload_n 1, 1) := by decide +kernel
theorem d_DE_beginLife_41 : decode b_DE_beginLife 41 = .ok (.aload_n 0, 1) := by decide +kernel
theorem d_DE_beginLife_42 : decode b_DE_beginLife 42 = .ok (.getfield 42, 3) := by decide +kernel
theorem d_DE_beginLife_45 : decode b_DE_beginLife 45 = .ok (.if_icmp .ge 18, 3) := by decide +kernel
theorem d_DE_beginLife_48 : decode b_DE_beginLife 48 = .ok (.aload_n 0, 1) := by decide +kernel
theorem d_DE_beginLife_49 : decode b_DE_beginLife 49 = .ok (.getfield 11, 3) := by decide +kernel
theorem d_DE_beginLife_52 : decode b_DE_beginLife 52 = .ok (.iload_n 1, 1) := by decide +kernel
theorem d_DE_beginLife_53 : decode b_DE_beginLife 53 = .ok (.aaload, 1) := by decide +kernel
theorem d_DE_beginLife_54 : decode b_DE_beginLife 54 = .ok (.invokevirtual 58, 3) := by decide +kernel
theorem d_DE_beginLife_57 : decode b_DE_beginLife 57 = .ok (.iinc 1 1, 3) := by decide +kernel
theorem d_DE_beginLife_60 : decode b_DE_beginLife 60 = .ok (.goto (-20), 3) := by decide +kernel
theorem d_DE_beginLife_63 : decode b_DE_beginLife 63 = .ok (.return_, 1) := by decide +kernel
theorem d_DE_tie_0 : decode b_DE_tie 0 = .ok (.aload_n 0, 1) := by decide +kernel
theorem d_DE_tie_1 : decode b_DE_tie 1 = .ok (.iload_n 1, 1) := by decide +kernel
theorem d_DE_tie_2 : decode b_DE_tie 2 = .ok (.putfield 49, 3) := by decide +kernel
theorem d_DE_tie_5 : decode b_DE_tie 5 = .ok (.iconst 0, 1) := by decide +kernel
theorem d_DE_tie_6 : decode b_DE_tie 6 = .ok (.istore_n 2, 1) := by decide +kernel
theorem d_DE_tie_7 : decode b_DE_tie 7 = .ok (.iload_n 2, 1) := by decide +kernel
theorem d_DE_tie_8 : decode b_DE_tie 8 = .ok (.aload_n 0, 1) := by decide +kernel
theorem d_DE_tie_9 : decode b_DE_tie 9 = .ok (.getfield 42, 3) := by decide +kernel
theorem d_DE_tie_12 : decode b_DE_tie 12 = .ok (.if_icmp .ge 19, 3) := by decide +kernel
theorem d_DE_tie_15 : decode b_DE_tie 15 = .ok (.aload_n 0, 1) := by decide +kernel
theorem d_DE_tie_16 : decode b_DE_tie 16 = .ok (.getfield 11, 3) := by decide +kernel
theorem d_DE_tie_19 : decode b_DE_tie 19 = .ok (.iload_n 2, 1) := by decide +kernel
theorem d_DE_tie_20 : decode b_DE_tie 20 = .ok (.aaload, 1) := by decide +kernel
theorem d_DE_tie_21 : decode b_DE_tie 21 = .ok (.iconst 0, 1) := by decide +kernel
theorem d_DE_tie_22 : decode b_DE_tie 22 = .ok (.putfield 61, 3) := by decide +kernel
theorem d_DE_tie_25 : decode b_DE_tie 25 = .ok (.iinc 2 1, 3) := by decide +kernel
theorem d_DE_tie_28 : decode b_DE_tie 28 = .ok (.goto (-21), 3) := by decide +kernel
theorem d_DE_tie_31 : decode b_DE_tie 31 = .ok (.return_, 1) := by decide +kernel
theorem d_DE_hasChannel_0 : decode b_DE_hasChannel 0 = .ok (.iload_n 1, 1) := by decide +kernel
theorem d_DE_hasChannel_1 : decode b_DE_hasChannel 1 = .ok (.ifCond .lt 15, 3) := by decide +kernel
theorem d_DE_hasChannel_4 : decode b_DE_hasChannel 4 = .ok (.iload_n 1, 1) := by decide +kernel
theorem d_DE_hasChannel_5 : decode b_DE_hasChannel 5 = .ok (.aload_n 0, 1) := by decide +kernel
theorem d_DE_hasChannel_6 : decode b_DE_hasChannel 6 = .ok (.getfield 42, 3) := by decide +kernel
theorem d_DE_hasChannel_9 : decode b_DE_hasChannel 9 = .ok (.if_icmp .ge 7, 3) := by decide +kernel
theorem d_DE_hasChannel_12 : decode b_DE_hasChannel 12 = .ok (.iconst 1, 1) := by decide +kernel
theorem d_DE_hasChannel_13 : decode b_DE_hasChannel 13 = .ok (.goto 4, 3) := by decide +kernel
theorem d_DE_hasChannel_16 : decode b_DE_hasChannel 16 = .ok (.iconst 0, 1) := by decide +kernel
theorem d_DE_hasChannel_17 : decode b_DE_hasChannel 17 = .ok (.ireturn, 1) := by decide +kernel
theorem d_DE_leastChannelWith_0 : decode b_DE_leastChannelWith 0 = .ok (.iconst 0, 1) := by decide +kernel
theorem d_DE_leastChannelWith_1 : decode b_DE_leastChannelWith 1 = .ok (.istore_n 2, 1) := by decide +kernel
theorem d_DE_leastChannelWith_2 : decode b_DE_leastChannelWith 2 = .ok (.iload_n 2, 1) := by decide +kernel
theorem d_DE_leastChannelWith_3 : decode b_DE_leastChannelWith 3 = .ok (.aload_n 0, 1) := by decide +kernel
theorem d_DE_leastChannelWith_4 : decode b_DE_leastChannelWith 4 = .ok (.getfield 42, 3) := by decide +kernel
theorem d_DE_leastChannelWith_7 : decode b_DE_leastChannelWith 7 = .ok (.if_icmp .ge 24, 3) := by decide +kernel
theorem d_DE_leastChannelWith_10 : decode b_DE_leastChannelWith 10 = .ok (.aload_n 0, 1) := by decide +kernel
theorem d_DE_leastChannelWith_11 : decode b_DE_leastChannelWith 11 = .ok (.getfield 11, 3) := by decide +kernel
theorem d_DE_leastChannelWith_14 : decode b_DE_leastChannelWith 14 = .ok (.iload_n 2, 1) := by decide +kernel
theorem d_DE_leastChannelWith_15 : decode b_DE_leastChannelWith 15 = .ok (.aaload, 1) := by decide +kernel
theorem d_DE_leastChannelWith_16 : decode b_DE_leastChannelWith 16 = .ok (.getfield 64, 3) := by decide +kernel
theorem d_DE_leastChannelWith_19 : decode b_DE_leastChannelWith 19 = .ok (.iload_n 1, 1) := by decide +kernel
theorem d_DE_leastChannelWith_20 : decode b_DE_leastChannelWith 20 = .ok (.if_icmp .ne 5, 3) := by decide +kernel
theorem d_DE_leastChannelWith_23 : decode b_DE_leastChannelWith 23 = .ok (.iload_n 2, 1) := by decide +kernel
theorem d_DE_leastChannelWith_24 : decode b_DE_leastChannelWith 24 = .ok (.ireturn, 1) := by decide +kernel
theorem d_DE_leastChannelWith_25 : decode b_DE_leastChannelWith 25 = .ok (.iinc 2 1, 3) := by decide +kernel
theorem d_DE_leastChannelWith_28 : decode b_DE_leastChannelWith 28 = .ok (.goto (-26), 3) := by decide +kernel
theorem d_DE_leastChannelWith_31 : decode b_DE_leastChannelWith 31 = .ok (.iconst (-1), 1) := by decide +kernel
theorem d_DE_leastChannelWith_32 : decode b_DE_leastChannelWith 32 = .ok (.ireturn, 1) := by decide +kernel
theorem d_DE_soundsAt_0 : decode b_DE_soundsAt 0 = .ok (.iload_n 1, 1) := by decide +kernel
theorem d_DE_soundsAt_1 : decode b_DE_soundsAt 1 = .ok (.aload_n 0, 1) := by decide +kernel
theorem d_DE_soundsAt_2 : decode b_DE_soundsAt 2 = .ok (.getfield 35, 3) := by decide +kernel
theorem d_DE_soundsAt_5 : decode b_DE_soundsAt 5 = .ok (.isub, 1) := by decide +kernel
theorem d_DE_soundsAt_6 : decode b_DE_soundsAt 6 = .ok (.sipush 3000, 3) := by decide +kernel
theorem d_DE_soundsAt_9 : decode b_DE_soundsAt 9 = .ok (.if_icmp .ge 5, 3) := by decide +kernel
theorem d_DE_soundsAt_12 : decode b_DE_soundsAt 12 = .ok (.iconst 0, 1) := by decide +kernel
theorem d_DE_soundsAt_13 : decode b_DE_soundsAt 13 = .ok (.ireturn, 1) := by decide +kernel
theorem d_DE_soundsAt_14 : decode b_DE_soundsAt 14 = .ok (.iconst 0, 1) := by decide +kernel
theorem d_DE_soundsAt_15 : decode b_DE_soundsAt 15 = .ok (.istore_n 2, 1) := by decide +kernel
theorem d_DE_soundsAt_16 : decode b_DE_soundsAt 16 = .ok (.iload_n 2, 1) := by decide +kernel
theorem d_DE_soundsAt_17 : decode b_DE_soundsAt 17 = .ok (.aload_n 0, 1) := by decide +kernel
theorem d_DE_soundsAt_18 : decode b_DE_soundsAt 18 = .ok (.getfield 42, 3) := by decide +kernel
theorem d_DE_soundsAt_21 : decode b_DE_soundsAt 21 = .ok (.if_icmp .ge 26, 3) := by decide +kernel
theorem d_DE_soundsAt_24 : decode b_DE_soundsAt 24 = .ok (.aload_n 0, 1) := by decide +kernel
theorem d_DE_soundsAt_25 : decode b_DE_soundsAt 25 = .ok (.getfield 11, 3) := by decide +kernel
theorem d_DE_soundsAt_28 : decode b_DE_soundsAt 28 = .ok (.iload_n 2, 1) := by decide +kernel
theorem d_DE_soundsAt_29 : decode b_DE_soundsAt 29 = .ok (.aaload, 1) := by decide +kernel
theorem d_DE_soundsAt_30 : decode b_DE_soundsAt 30 = .ok (.getfield 67, 3) := by decide +kernel
theorem d_DE_soundsAt_33 : decode b_DE_soundsAt 33 = .ok (.invokevirtual 71, 3) := by decide +kernel
theorem d_DE_soundsAt_36 : decode b_DE_soundsAt 36 = .ok (.ifCond .eq 5, 3) := by decide +kernel
theorem d_DE_soundsAt_39 : decode b_DE_soundsAt 39 = .ok (.iconst 1, 1) := by decide +kernel
theorem d_DE_soundsAt_40 : decode b_DE_soundsAt 40 = .ok (.ireturn, 1) := by decide +kernel
theorem d_DE_soundsAt_41 : decode b_DE_soundsAt 41 = .ok (.iinc 2 1, 3) := by decide +kernel
theorem d_DE_soundsAt_44 : decode b_DE_soundsAt 44 = .ok (.goto (-28), 3) := by decide +kernel
theorem d_DE_soundsAt_47 : decode b_DE_soundsAt 47 = .ok (.iconst 0, 1) := by decide +kernel
theorem d_DE_soundsAt_48 : decode b_DE_soundsAt 48 = .ok (.ireturn, 1) := by decide +kernel
theorem d_DE_soundsAtStation_0 : decode b_DE_soundsAtStation 0 = .ok (.iconst 0, 1) := by decide +kernel
theorem d_DE_soundsAtStation_1 : decode b_DE_soundsAtStation 1 = .ok (.istore_n 1, 1) := by decide +kernel
theorem d_DE_soundsAtStation_2 : decode b_DE_soundsAtStation 2 = .ok (.iload_n 1, 1) := by decide +kernel
theorem d_DE_soundsAtStation_3 : decode b_DE_soundsAtStation 3 = .ok (.aload_n 0, 1) := by decide +kernel
theorem d_DE_soundsAtStation_4 : decode b_DE_soundsAtStation 4 = .ok (.getfield 42, 3) := by decide +kernel
theorem d_DE_soundsAtStation_7 : decode b_DE_soundsAtStation 7 = .ok (.if_icmp .ge 26, 3) := by decide +kernel
theorem d_DE_soundsAtStation_10 : decode b_DE_soundsAtStation 10 = .ok (.aload_n 0, 1) := by decide +kernel
theorem d_DE_soundsAtStation_11 : decode b_DE_soundsAtStation 11 = .ok (.getfield 11, 3) := by decide +kernel
theorem d_DE_soundsAtStation_14 : decode b_DE_soundsAtStation 14 = .ok (.iload_n 1, 1) := by decide +kernel
theorem d_DE_soundsAtStation_15 : decode b_DE_soundsAtStation 15 = .ok (.aaload, 1) := by decide +kernel
theorem d_DE_soundsAtStation_16 : decode b_DE_soundsAtStation 16 = .ok (.getfield 77, 3) := by decide +kernel
theorem d_DE_soundsAtStation_19 : decode b_DE_soundsAtStation 19 = .ok (.invokevirtual 81, 3) := by decide +kernel
theorem d_DE_soundsAtStation_22 : decode b_DE_soundsAtStation 22 = .ok (.ifCond .eq 5, 3) := by decide +kernel
theorem d_DE_soundsAtStation_25 : decode b_DE_soundsAtStation 25 = .ok (.iconst 1, 1) := by decide +kernel
theorem d_DE_soundsAtStation_26 : decode b_DE_soundsAtStation 26 = .ok (.ireturn, 1) := by decide +kernel
theorem d_DE_soundsAtStation_27 : decode b_DE_soundsAtStation 27 = .ok (.iinc 1 1, 3) := by decide +kernel
theorem d_DE_soundsAtStation_30 : decode b_DE_soundsAtStation 30 = .ok (.goto (-28), 3) := by decide +kernel
theorem d_DE_soundsAtStation_33 : decode b_DE_soundsAtStation 33 = .ok (.iconst 0, 1) := by decide +kernel
theorem d_DE_soundsAtStation_34 : decode b_DE_soundsAtStation 34 = .ok (.ireturn, 1) := by decide +kernel
theorem d_DI_init_0 : decode b_DI_init 0 = .ok (.aload_n 0, 1) := by decide +kernel
theorem d_DI_init_1 : decode b_DI_init 1 = .ok (.invokespecial 3, 3) := by decide +kernel
theorem d_DI_init_4 : decode b_DI_init 4 = .ok (.aload_n 0, 1) := by decide +kernel
theorem d_DI_init_5 : decode b_DI_init 5 = .ok (.iconst (-1), 1) := by decide +kernel
theorem d_DI_init_6 : decode b_DI_init 6 = .ok (.putfield 9, 3) := by decide +kernel
theorem d_DI_init_9 : decode b_DI_init 9 = .ok (.aload_n 0, 1) := by decide +kernel
theorem d_DI_init_10 : decode b_DI_init 10 = .ok (.ldc 15, 2) := by decide +kernel
theorem d_DI_init_12 : decode b_DI_init 12 = .ok (.putfield 16, 3) := by decide +kernel
theorem d_DI_init_15 : decode b_DI_init 15 = .ok (.return_, 1) := by decide +kernel
theorem d_DI_attach_0 : decode b_DI_attach 0 = .ok (.aload_n 0, 1) := by decide +kernel
theorem d_DI_attach_1 : decode b_DI_attach 1 = .ok (.iload_n 1, 1) := by decide +kernel
theorem d_DI_attach_2 : decode b_DI_attach 2 = .ok (.putfield 19, 3) := by decide +kernel
theorem d_DI_attach_5 : decode b_DI_attach 5 = .ok (.aload_n 0, 1) := by decide +kernel
theorem d_DI_attach_6 : decode b_DI_attach 6 = .ok (.iload_n 2, 1) := by decide +kernel
theorem d_DI_attach_7 : decode b_DI_attach 7 = .ok (.putfield 22, 3) := by decide +kernel
theorem d_DI_attach_10 : decode b_DI_attach 10 = .ok (.aload_n 0, 1) := by decide +kernel
theorem d_DI_attach_11 : decode b_DI_attach 11 = .ok (.iload_n 3, 1) := by decide +kernel
theorem d_DI_attach_12 : decode b_DI_attach 12 = .ok (.putfield 25, 3) := by decide +kernel
theorem d_DI_attach_15 : decode b_DI_attach 15 = .ok (.aload_n 0, 1) := by decide +kernel
theorem d_DI_attach_16 : decode b_DI_attach 16 = .ok (.iload 4, 2) := by decide +kernel
theorem d_DI_attach_18 : decode b_DI_attach 18 = .ok (.putfield 28, 3) := by decide +kernel
theorem d_DI_attach_21 : decode b_DI_attach 21 = .ok (.return_, 1) := by decide +kernel
theorem d_DI_hear_0 : decode b_DI_hear 0 = .ok (.aload_n 1, 1) := by decide +kernel
theorem d_DI_hear_1 : decode b_DI_hear 1 = .ok (.getfield 31, 3) := by decide +kernel
theorem d_DI_hear_4 : decode b_DI_hear 4 = .ok (.aload_n 0, 1) := by decide +kernel
theorem d_DI_hear_5 : decode b_DI_hear 5 = .ok (.getfield 19, 3) := by decide +kernel
theorem d_DI_hear_8 : decode b_DI_hear 8 = .ok (.if_icmp .ne 40, 3) := by decide +kernel
theorem d_DI_hear_11 : decode b_DI_hear 11 = .ok (.aload_n 1, 1) := by decide +kernel
theorem d_DI_hear_12 : decode b_DI_hear 12 = .ok (.getfield 34, 3) := by decide +kernel
theorem d_DI_hear_15 : decode b_DI_hear 15 = .ok (.aload_n 0, 1) := by decide +kernel
theorem d_DI_hear_16 : decode b_DI_hear 16 = .ok (.getfield 22, 3) := by decide +kernel
theorem d_DI_hear_19 : decode b_DI_hear 19 = .ok (.if_icmp .ne 29, 3) := by decide +kernel
theorem d_DI_hear_22 : decode b_DI_hear 22 = .ok (.aload_n 1, 1) := by decide +kernel
theorem d_DI_hear_23 : decode b_DI_hear 23 = .ok (.getfield 37, 3) := by decide +kernel
theorem d_DI_hear_26 : decode b_DI_hear 26 = .ok (.aload_n 0, 1) := by decide +kernel
theorem d_DI_hear_27 : decode b_DI_hear 27 = .ok (.getfield 25, 3) := by decide +kernel
theorem d_DI_hear_30 : decode b_DI_hear 30 = .ok (.if_icmp .ne 18, 3) := by decide +kernel
theorem d_DI_hear_33 : decode b_DI_hear 33 = .ok (.aload_n 1, 1) := by decide +kernel
theorem d_DI_hear_34 : decode b_DI_hear 34 = .ok (.getfield 38, 3) := by decide +kernel
theorem d_DI_hear_37 : decode b_DI_hear 37 = .ok (.aload_n 0, 1) := by decide +kernel
theorem d_DI_hear_38 : decode b_DI_hear 38 = .ok (.getfield 28, 3) := by decide +kernel
theorem d_DI_hear_41 : decode b_DI_hear 41 = .ok (.if_icmp .ne 7, 3) := by decide +kernel
theorem d_DI_hear_44 : decode b_DI_hear 44 = .ok (.iconst 1, 1) := by decide +kernel
theorem d_DI_hear_45 : decode b_DI_hear 45 = .ok (.goto 4, 3) := by decide +kernel
theorem d_DI_hear_48 : decode b_DI_hear 48 = .ok (.iconst 0, 1) := by decide +kernel
theorem d_DI_hear_49 : decode b_DI_hear 49 = .ok (.istore_n 3, 1) := by decide +kernel
theorem d_DI_hear_50 : decode b_DI_hear 50 = .ok (.iload_n 3, 1) := by decide +kernel
theorem d_DI_hear_51 : decode b_DI_hear 51 = .ok (.ifCond .eq 43, 3) := by decide +kernel
theorem d_DI_hear_54 : decode b_DI_hear 54 = .ok (.aload_n 1, 1) := by decide +kernel
theorem d_DI_hear_55 : decode b_DI_hear 55 = .ok (.getfield 39, 3) := by decide +kernel
theorem d_DI_hear_58 : decode b_DI_hear 58 = .ok (.aload_n 0, 1) := by decide +kernel
theorem d_DI_hear_59 : decode b_DI_hear 59 = .ok (.getfield 9, 3) := by decide +kernel
theorem d_DI_hear_62 : decode b_DI_hear 62 = .ok (.if_icmp .le 32, 3) := by decide +kernel
theorem d_DI_hear_65 : decode b_DI_hear 65 = .ok (.aload_n 0, 1) := by decide +kernel
theorem d_DI_hear_66 : decode b_DI_hear 66 = .ok (.aload_n 1, 1) := by decide +kernel
theorem d_DI_hear_67 : decode b_DI_hear 67 = .ok (.getfield 39, 3) := by decide +kernel
theorem d_DI_hear_70 : decode b_DI_hear 70 = .ok (.putfield 9, 3) := by decide +kernel
theorem d_DI_hear_73 : decode b_DI_hear 73 = .ok (.aload_n 0, 1) := by decide +kernel
theorem d_DI_hear_74 : decode b_DI_hear 74 = .ok (.aload_n 1, 1) := by decide +kernel
theorem d_DI_hear_75 : decode b_DI_hear 75 = .ok (.getfield 40, 3) := by decide +kernel
theorem d_DI_hear_78 : decode b_DI_hear 78 = .ok (.putfield 43, 3) := by decide +kernel
theorem d_DI_hear_81 : decode b_DI_hear 81 = .ok (.aload_n 0, 1) := by decide +kernel
theorem d_DI_hear_82 : decode b_DI_hear 82 = .ok (.aload_n 1, 1) := by decide +kernel
theorem d_DI_hear_83 : decode b_DI_hear 83 = .ok (.getfield 44, 3) := by decide +kernel
theorem d_DI_hear_86 : decode b_DI_hear 86 = .ok (.putfield 47, 3) := by decide +kernel
theorem d_DI_hear_89 : decode b_DI_hear 89 = .ok (.aload_n 0, 1) := by decide +kernel
theorem d_DI_hear_90 : decode b_DI_hear 90 = .ok (.iload_n 2, 1) := by decide +kernel
theorem d_DI_hear_91 : decode b_DI_hear 91 = .ok (.putfield 16, 3) := by decide +kernel
theorem d_DI_hear_94 : decode b_DI_hear 94 = .ok (.return_, 1) := by decide +kernel
theorem d_KN_init_0 : decode b_KN_init 0 = .ok (.aload_n 0, 1) := by decide +kernel
theorem d_KN_init_1 : decode b_KN_init 1 = .ok (.invokespecial 3, 3) := by decide +kernel
theorem d_KN_init_4 : decode b_KN_init 4 = .ok (.aload_n 0, 1) := by decide +kernel
theorem d_KN_init_5 : decode b_KN_init 5 = .ok (.iconst (-1), 1) := by decide +kernel
theorem d_KN_init_6 : decode b_KN_init 6 = .ok (.putfield 9, 3) := by decide +kernel
theorem d_KN_init_9 : decode b_KN_init 9 = .ok (.return_, 1) := by decide +kernel
theorem d_KN_learn_0 : decode b_KN_learn 0 = .ok (.aload_n 0, 1) := by decide +kernel
theorem d_KN_learn_1 : decode b_KN_learn 1 = .ok (.iload_n 1, 1) := by decide +kernel
theorem d_KN_learn_2 : decode b_KN_learn 2 = .ok (.putfield 9, 3) := by decide +kernel
theorem d_KN_learn_5 : decode b_KN_learn 5 = .ok (.aload_n 0, 1) := by decide +kernel
theorem d_KN_learn_6 : decode b_KN_learn 6 = .ok (.iload_n 2, 1) := by decide +kernel
theorem d_KN_learn_7 : decode b_KN_learn 7 = .ok (.putfield 15, 3) := by decide +kernel
theorem d_KN_learn_10 : decode b_KN_learn 10 = .ok (.aload_n 0, 1) := by decide +kernel
theorem d_KN_learn_11 : decode b_KN_learn 11 = .ok (.iconst 0, 1) := by decide +kernel
theorem d_KN_learn_12 : decode b_KN_learn 12 = .ok (.putfield 19, 3) := by decide +kernel
theorem d_KN_learn_15 : decode b_KN_learn 15 = .ok (.return_, 1) := by decide +kernel
theorem d_KN_sounds_0 : decode b_KN_sounds 0 = .ok (.aload_n 0, 1) := by decide +kernel
theorem d_KN_sounds_1 : decode b_KN_sounds 1 = .ok (.getfield 15, 3) := by decide +kernel
theorem d_KN_sounds_4 : decode b_KN_sounds 4 = .ok (.ifCond .eq 14, 3) := by decide +kernel
theorem d_KN_sounds_7 : decode b_KN_sounds 7 = .ok (.aload_n 0, 1) := by decide +kernel
theorem d_KN_sounds_8 : decode b_KN_sounds 8 = .ok (.getfield 19, 3) := by decide +kernel
theorem d_KN_sounds_11 : decode b_KN_sounds 11 = .ok (.ifCond .ne 7, 3) := by decide +kernel
theorem d_KN_sounds_14 : decode b_KN_sounds 14 = .ok (.iconst 1, 1) := by decide +kernel
theorem d_KN_sounds_15 : decode b_KN_sounds 15 = .ok (.goto 4, 3) := by decide +kernel
theorem d_KN_sounds_18 : decode b_KN_sounds 18 = .ok (.iconst 0, 1) := by decide +kernel
theorem d_KN_sounds_19 : decode b_KN_sounds 19 = .ok (.ireturn, 1) := by decide +kernel
theorem d_KN_standing_0 : decode b_KN_standing 0 = .ok (.aload_n 0, 1) := by decide +kernel
theorem d_KN_standing_1 : decode b_KN_standing 1 = .ok (.getfield 9, 3) := by decide +kernel
theorem d_KN_standing_4 : decode b_KN_standing 4 = .ok (.iconst (-1), 1) := by decide +kernel
theorem d_KN_standing_5 : decode b_KN_standing 5 = .ok (.if_icmp .ne 5, 3) := by decide +kernel
theorem d_KN_standing_8 : decode b_KN_standing 8 = .ok (.iconst 0, 1) := by decide +kernel
theorem d_KN_standing_9 : decode b_KN_standing 9 = .ok (.ireturn, 1) := by decide +kernel
theorem d_KN_standing_10 : decode b_KN_standing 10 = .ok (.aload_n 0, 1) := by decide +kernel
theorem d_KN_standing_11 : decode b_KN_standing 11 = .ok (.getfield 15, 3) := by decide +kernel
theorem d_KN_standing_14 : decode b_KN_standing 14 = .ok (.ifCond .ne 5, 3) := by decide +kernel
theorem d_KN_standing_17 : decode b_KN_standing 17 = .ok (.iconst 1, 1) := by decide +kernel
theorem d_KN_standing_18 : decode b_KN_standing 18 = .ok (.ireturn, 1) := by decide +kernel
theorem d_KN_standing_19 : decode b_KN_standing 19 = .ok (.aload_n 0, 1) := by decide +kernel
theorem d_KN_standing_20 : decode b_KN_standing 20 = .ok (.getfield 19, 3) := by decide +kernel
theorem d_KN_standing_23 : decode b_KN_standing 23 = .ok (.ifCond .eq 7, 3) := by decide +kernel
theorem d_KN_standing_26 : decode b_KN_standing 26 = .ok (.iconst 3, 1) := by decide +kernel
theorem d_KN_standing_27 : decode b_KN_standing 27 = .ok (.goto 4, 3) := by decide +kernel
theorem d_KN_standing_30 : decode b_KN_standing 30 = .ok (.iconst 2, 1) := by decide +kernel
theorem d_KN_standing_31 : decode b_KN_standing 31 = .ok (.ireturn, 1) := by decide +kernel
theorem d_ME_init_0 : decode b_ME_init 0 = .ok (.aload_n 0, 1) := by decide +kernel
theorem d_ME_init_1 : decode b_ME_init 1 = .ok (.invokespecial 1, 3) := by decide +kernel
theorem d_ME_init_4 : decode b_ME_init 4 = .ok (.return_, 1) := by decide +kernel
theorem d_ME_copy_0 : decode b_ME_copy 0 = .ok (.aload_n 0, 1) := by decide +kernel
theorem d_ME_copy_1 : decode b_ME_copy 1 = .ok (.aload_n 1, 1) := by decide +kernel
theorem d_ME_copy_2 : decode b_ME_copy 2 = .ok (.getfield 7, 3) := by decide +kernel
theorem d_ME_copy_5 : decode b_ME_copy 5 = .ok (.putfield 7, 3) := by decide +kernel
theorem d_ME_copy_8 : decode b_ME_copy 8 = .ok (.aload_n 0, 1) := by decide +kernel
theorem d_ME_copy_9 : decode b_ME_copy 9 = .ok (.aload_n 1, 1) := by decide +kernel
theorem d_ME_copy_10 : decode b_ME_copy 10 = .ok (.getfield 13, 3) := by decide +kernel
theorem d_ME_copy_13 : decode b_ME_copy 13 = .ok (.putfield 13, 3) := by decide +kernel
theorem d_ME_copy_16 : decode b_ME_copy 16 = .ok (.aload_n 0, 1) := by decide +kernel
theorem d_ME_copy_17 : decode b_ME_copy 17 = .ok (.aload_n 1, 1) := by decide +kernel
theorem d_ME_copy_18 : decode b_ME_copy 18 = .ok (.getfield 16, 3) := by decide +kernel
theorem d_ME_copy_21 : decode b_ME_copy 21 = .ok (.putfield 16, 3) := by decide +kernel
theorem d_ME_copy_24 : decode b_ME_copy 24 = .ok (.aload_n 0, 1) := by decide +kernel
theorem d_ME_copy_25 : decode b_ME_copy 25 = .ok (.aload_n 1, 1) := by decide +kernel
theorem d_ME_copy_26 : decode b_ME_copy 26 = .ok (.getfield 19, 3) := by decide +kernel
theorem d_ME_copy_29 : decode b_ME_copy 29 = .ok (.putfield 19, 3) := by decide +kernel
theorem d_ME_copy_32 : decode b_ME_copy 32 = .ok (.aload_n 0, 1) := by decide +kernel
theorem d_ME_copy_33 : decode b_ME_copy 33 = .ok (.aload_n 1, 1) := by decide +kernel
theorem d_ME_copy_34 : decode b_ME_copy 34 = .ok (.getfield 22, 3) := by decide +kernel
theorem d_ME_copy_37 : decode b_ME_copy 37 = .ok (.putfield 22, 3) := by decide +kernel
theorem d_ME_copy_40 : decode b_ME_copy 40 = .ok (.aload_n 0, 1) := by decide +kernel
theorem d_ME_copy_41 : decode b_ME_copy 41 = .ok (.aload_n 1, 1) := by decide +kernel
theorem d_ME_copy_42 : decode b_ME_copy 42 = .ok (.getfield 25, 3) := by decide +kernel
theorem d_ME_copy_45 : decode b_ME_copy 45 = .ok (.putfield 25, 3) := by decide +kernel
theorem d_ME_copy_48 : decode b_ME_copy 48 = .ok (.aload_n 0, 1) := by decide +kernel
theorem d_ME_copy_49 : decode b_ME_copy 49 = .ok (.aload_n 1, 1) := by decide +kernel
theorem d_ME_copy_50 : decode b_ME_copy 50 = .ok (.getfield 28, 3) := by decide +kernel
theorem d_ME_copy_53 : decode b_ME_copy 53 = .ok (.putfield 28, 3) := by decide +kernel
theorem d_ME_copy_56 : decode b_ME_copy 56 = .ok (.aload_n 0, 1) := by decide +kernel
theorem d_ME_copy_57 : decode b_ME_copy 57 = .ok (.aload_n 1, 1) := by decide +kernel
theorem d_ME_copy_58 : decode b_ME_copy 58 = .ok (.getfield 31, 3) := by decide +kernel
theorem d_ME_copy_61 : decode b_ME_copy 61 = .ok (.putfield 31, 3) := by decide +kernel
theorem d_ME_copy_64 : decode b_ME_copy 64 = .ok (.return_, 1) := by decide +kernel
theorem d_ME_fact_0 : decode b_ME_fact 0 = .ok (.iload_n 1, 1) := by decide +kernel
theorem d_ME_fact_1 : decode b_ME_fact 1 = .ok (.tableswitch 51 0 3 #[31, 36, 41, 46], 31) := by decide +kernel
theorem d_ME_fact_32 : decode b_ME_fact 32 = .ok (.aload_n 0, 1) := by decide +kernel
theorem d_ME_fact_33 : decode b_ME_fact 33 = .ok (.getfield 13, 3) := by decide +kernel
theorem d_ME_fact_36 : decode b_ME_fact 36 = .ok (.ireturn, 1) := by decide +kernel
theorem d_ME_fact_37 : decode b_ME_fact 37 = .ok (.aload_n 0, 1) := by decide +kernel
theorem d_ME_fact_38 : decode b_ME_fact 38 = .ok (.getfield 16, 3) := by decide +kernel
theorem d_ME_fact_41 : decode b_ME_fact 41 = .ok (.ireturn, 1) := by decide +kernel
theorem d_ME_fact_42 : decode b_ME_fact 42 = .ok (.aload_n 0, 1) := by decide +kernel
theorem d_ME_fact_43 : decode b_ME_fact 43 = .ok (.getfield 19, 3) := by decide +kernel
theorem d_ME_fact_46 : decode b_ME_fact 46 = .ok (.ireturn, 1) := by decide +kernel
theorem d_ME_fact_47 : decode b_ME_fact 47 = .ok (.aload_n 0, 1) := by decide +kernel
theorem d_ME_fact_48 : decode b_ME_fact 48 = .ok (.getfield 22, 3) := by decide +kernel
theorem d_ME_fact_51 : decode b_ME_fact 51 = .ok (.ireturn, 1) := by decide +kernel
theorem d_ME_fact_52 : decode b_ME_fact 52 = .ok (.aload_n 0, 1) := by decide +kernel
theorem d_ME_fact_53 : decode b_ME_fact 53 = .ok (.getfield 25, 3) := by decide +kernel
theorem d_ME_fact_56 : decode b_ME_fact 56 = .ok (.ireturn, 1) := by decide +kernel
theorem d_OR_init_0 : decode b_OR_init 0 = .ok (.aload_n 0, 1) := by decide +kernel
theorem d_OR_init_1 : decode b_OR_init 1 = .ok (.invokespecial 3, 3) := by decide +kernel
theorem d_OR_init_4 : decode b_OR_init 4 = .ok (.aload_n 0, 1) := by decide +kernel
theorem d_OR_init_5 : decode b_OR_init 5 = .ok (.iconst (-1), 1) := by decide +kernel
theorem d_OR_init_6 : decode b_OR_init 6 = .ok (.putfield 9, 3) := by decide +kernel
theorem d_OR_init_9 : decode b_OR_init 9 = .ok (.return_, 1) := by decide +kernel
theorem d_OR_write_0 : decode b_OR_write 0 = .ok (.aload_n 0, 1) := by decide +kernel
theorem d_OR_write_1 : decode b_OR_write 1 = .ok (.iload_n 1, 1) := by decide +kernel
theorem d_OR_write_2 : decode b_OR_write 2 = .ok (.putfield 15, 3) := by decide +kernel
theorem d_OR_write_5 : decode b_OR_write 5 = .ok (.aload_n 0, 1) := by decide +kernel
theorem d_OR_write_6 : decode b_OR_write 6 = .ok (.iload_n 2, 1) := by decide +kernel
theorem d_OR_write_7 : decode b_OR_write 7 = .ok (.putfield 18, 3) := by decide +kernel
theorem d_OR_write_10 : decode b_OR_write 10 = .ok (.aload_n 0, 1) := by decide +kernel
theorem d_OR_write_11 : decode b_OR_write 11 = .ok (.iload_n 3, 1) := by decide +kernel
theorem d_OR_write_12 : decode b_OR_write 12 = .ok (.putfield 21, 3) := by decide +kernel
theorem d_OR_write_15 : decode b_OR_write 15 = .ok (.return_, 1) := by decide +kernel
theorem d_PO_init_0 : decode b_PO_init 0 = .ok (.aload_n 0, 1) := by decide +kernel
theorem d_PO_init_1 : decode b_PO_init 1 = .ok (.invokespecial 3, 3) := by decide +kernel
theorem d_PO_init_4 : decode b_PO_init 4 = .ok (.aload_n 0, 1) := by decide +kernel
theorem d_PO_init_5 : decode b_PO_init 5 = .ok (.bipush 65, 2) := by decide +kernel
theorem d_PO_init_7 : decode b_PO_init 7 = .ok (.anewarray 9, 3) := by decide +kernel
theorem d_PO_init_10 : decode b_PO_init 10 = .ok (.putfield 11, 3) := by decide +kernel
theorem d_PO_init_13 : decode b_PO_init 13 = .ok (.iconst 0, 1) := by decide +kernel
theorem d_PO_init_14 : decode b_PO_init 14 = .ok (.istore_n 1, 1) := by decide +kernel
theorem d_PO_init_15 : decode b_PO_init 15 = .ok (.iload_n 1, 1) := by decide +kernel
theorem d_PO_init_16 : decode b_PO_init 16 = .ok (.bipush 64, 2) := by decide +kernel
theorem d_PO_init_18 : decode b_PO_init 18 = .ok (.if_icmp .gt 22, 3) := by decide +kernel
theorem d_PO_init_21 : decode b_PO_init 21 = .ok (.aload_n 0, 1) := by decide +kernel
theorem d_PO_init_22 : decode b_PO_init 22 = .ok (.getfield 11, 3) := by decide +kernel
theorem d_PO_init_25 : decode b_PO_init 25 = .ok (.iload_n 1, 1) := by decide +kernel
theorem d_PO_init_26 : decode b_PO_init 26 = .ok (.new 9, 3) := by decide +kernel
theorem d_PO_init_29 : decode b_PO_init 29 = .ok (.dup, 1) := by decide +kernel
theorem d_PO_init_30 : decode b_PO_init 30 = .ok (.invokespecial 17, 3) := by decide +kernel
theorem d_PO_init_33 : decode b_PO_init 33 = .ok (.aastore, 1) := by decide +kernel
theorem d_PO_init_34 : decode b_PO_init 34 = .ok (.iinc 1 1, 3) := by decide +kernel
theorem d_PO_init_37 : decode b_PO_init 37 = .ok (.goto (-22), 3) := by decide +kernel
theorem d_PO_init_40 : decode b_PO_init 40 = .ok (.return_, 1) := by decide +kernel
theorem d_PO_send_0 : decode b_PO_send 0 = .ok (.aload_n 0, 1) := by decide +kernel
theorem d_PO_send_1 : decode b_PO_send 1 = .ok (.getfield 11, 3) := by decide +kernel
theorem d_PO_send_4 : decode b_PO_send 4 = .ok (.aload_n 0, 1) := by decide +kernel
theorem d_PO_send_5 : decode b_PO_send 5 = .ok (.getfield 18, 3) := by decide +kernel
theorem d_PO_send_8 : decode b_PO_send 8 = .ok (.aaload, 1) := by decide +kernel
theorem d_PO_send_9 : decode b_PO_send 9 = .ok (.astore 8, 2) := by decide +kernel
theorem d_PO_send_11 : decode b_PO_send 11 = .ok (.aload 8, 2) := by decide +kernel
theorem d_PO_send_13 : decode b_PO_send 13 = .ok (.aload_n 0, 1) := by decide +kernel
theorem d_PO_send_14 : decode b_PO_send 14 = .ok (.getfield 22, 3) := by decide +kernel
theorem d_PO_send_17 : decode b_PO_send 17 = .ok (.putfield 25, 3) := by decide +kernel
theorem d_PO_send_20 : decode b_PO_send 20 = .ok (.aload 8, 2) := by decide +kernel
theorem d_PO_send_22 : decode b_PO_send 22 = .ok (.iload_n 1, 1) := by decide +kernel
theorem d_PO_send_23 : decode b_PO_send 23 = .ok (.putfield 28, 3) := by decide +kernel
theorem d_PO_send_26 : decode b_PO_send 26 = .ok (.aload 8, 2) := by decide +kernel
theorem d_PO_send_28 : decode b_PO_send 28 = .ok (.iload_n 2, 1) := by decide +kernel
theorem d_PO_send_29 : decode b_PO_send 29 = .ok (.putfield 31, 3) := by decide +kernel
theorem d_PO_send_32 : decode b_PO_send 32 = .ok (.aload 8, 2) := by decide +kernel
theorem d_PO_send_34 : decode b_PO_send 34 = .ok (.iload_n 3, 1) := by decide +kernel
theorem d_PO_send_35 : decode b_PO_send 35 = .ok (.putfield 34, 3) := by decide +kernel
theorem d_PO_send_38 : decode b_PO_send 38 = .ok (.aload 8, 2) := by decide +kernel
theorem d_PO_send_40 : decode b_PO_send 40 = .ok (.iload 4, 2) := by decide +kernel
theorem d_PO_send_42 : decode b_PO_send 42 = .ok (.putfield 37, 3) := by decide +kernel
theorem d_PO_send_45 : decode b_PO_send 45 = .ok (.aload 8, 2) := by decide +kernel
theorem d_PO_send_47 : decode b_PO_send 47 = .ok (.iload 5, 2) := by decide +kernel
theorem d_PO_send_49 : decode b_PO_send 49 = .ok (.putfield 40, 3) := by decide +kernel
theorem d_PO_send_52 : decode b_PO_send 52 = .ok (.aload 8, 2) := by decide +kernel
theorem d_PO_send_54 : decode b_PO_send 54 = .ok (.iload 6, 2) := by decide +kernel
theorem d_PO_send_56 : decode b_PO_send 56 = .ok (.putfield 43, 3) := by decide +kernel
theorem d_PO_send_59 : decode b_PO_send 59 = .ok (.aload 8, 2) := by decide +kernel
theorem d_PO_send_61 : decode b_PO_send 61 = .ok (.iload 7, 2) := by decide +kernel
theorem d_PO_send_63 : decode b_PO_send 63 = .ok (.putfield 46, 3) := by decide +kernel
theorem d_PO_send_66 : decode b_PO_send 66 = .ok (.aload_n 0, 1) := by decide +kernel
theorem d_PO_send_67 : decode b_PO_send 67 = .ok (.dup, 1) := by decide +kernel
theorem d_PO_send_68 : decode b_PO_send 68 = .ok (.getfield 22, 3) := by decide +kernel
theorem d_PO_send_71 : decode b_PO_send 71 = .ok (.iconst 1, 1) := by decide +kernel
theorem d_PO_send_72 : decode b_PO_send 72 = .ok (.iadd, 1) := by decide +kernel
theorem d_PO_send_73 : decode b_PO_send 73 = .ok (.putfield 22, 3) := by decide +kernel
theorem d_PO_send_76 : decode b_PO_send 76 = .ok (.aload_n 0, 1) := by decide +kernel
theorem d_PO_send_77 : decode b_PO_send 77 = .ok (.getfield 18, 3) := by decide +kernel
theorem d_PO_send_80 : decode b_PO_send 80 = .ok (.bipush 64, 2) := by decide +kernel
theorem d_PO_send_82 : decode b_PO_send 82 = .ok (.if_icmp .ge 16, 3) := by decide +kernel
theorem d_PO_send_85 : decode b_PO_send 85 = .ok (.aload_n 0, 1) := by decide +kernel
theorem d_PO_send_86 : decode b_PO_send 86 = .ok (.dup, 1) := by decide +kernel
theorem d_PO_send_87 : decode b_PO_send 87 = .ok (.getfield 18, 3) := by decide +kernel
theorem d_PO_send_90 : decode b_PO_send 90 = .ok (.iconst 1, 1) := by decide +kernel
theorem d_PO_send_91 : decode b_PO_send 91 = .ok (.iadd, 1) := by decide +kernel
theorem d_PO_send_92 : decode b_PO_send 92 = .ok (.putfield 18, 3) := by decide +kernel
theorem d_PO_send_95 : decode b_PO_send 95 = .ok (.goto 13, 3) := by decide +kernel
theorem d_PO_send_98 : decode b_PO_send 98 = .ok (.aload_n 0, 1) := by decide +kernel
theorem d_PO_send_99 : decode b_PO_send 99 = .ok (.dup, 1) := by decide +kernel
theorem d_PO_send_100 : decode b_PO_send 100 = .ok (.getfield 49, 3) := by decide +kernel
theorem d_PO_send_103 : decode b_PO_send 103 = .ok (.iconst 1, 1) := by decide +kernel
theorem d_PO_send_104 : decode b_PO_send 104 = .ok (.iadd, 1) := by decide +kernel
theorem d_PO_send_105 : decode b_PO_send 105 = .ok (.putfield 49, 3) := by decide +kernel
theorem d_PO_send_108 : decode b_PO_send 108 = .ok (.return_, 1) := by decide +kernel
theorem d_PO_indexOf_0 : decode b_PO_indexOf 0 = .ok (.iconst 0, 1) := by decide +kernel
theorem d_PO_indexOf_1 : decode b_PO_indexOf 1 = .ok (.istore_n 2, 1) := by decide +kernel
theorem d_PO_indexOf_2 : decode b_PO_indexOf 2 = .ok (.iload_n 2, 1) := by decide +kernel
theorem d_PO_indexOf_3 : decode b_PO_indexOf 3 = .ok (.aload_n 0, 1) := by decide +kernel
theorem d_PO_indexOf_4 : decode b_PO_indexOf 4 = .ok (.getfield 18, 3) := by decide +kernel
theorem d_PO_indexOf_7 : decode b_PO_indexOf 7 = .ok (.if_icmp .ge 24, 3) := by decide +kernel
theorem d_PO_indexOf_10 : decode b_PO_indexOf 10 = .ok (.aload_n 0, 1) := by decide +kernel
theorem d_PO_indexOf_11 : decode b_PO_indexOf 11 = .ok (.getfield 11, 3) := by decide +kernel
theorem d_PO_indexOf_14 : decode b_PO_indexOf 14 = .ok (.iload_n 2, 1) := by decide +kernel
theorem d_PO_indexOf_15 : decode b_PO_indexOf 15 = .ok (.aaload, 1) := by decide +kernel
theorem d_PO_indexOf_16 : decode b_PO_indexOf 16 = .ok (.getfield 25, 3) := by decide +kernel
theorem d_PO_indexOf_19 : decode b_PO_indexOf 19 = .ok (.iload_n 1, 1) := by decide +kernel
theorem d_PO_indexOf_20 : decode b_PO_indexOf 20 = .ok (.if_icmp .ne 5, 3) := by decide +kernel
theorem d_PO_indexOf_23 : decode b_PO_indexOf 23 = .ok (.iload_n 2, 1) := by decide +kernel
theorem d_PO_indexOf_24 : decode b_PO_indexOf 24 = .ok (.ireturn, 1) := by decide +kernel
theorem d_PO_indexOf_25 : decode b_PO_indexOf 25 = .ok (.iinc 2 1, 3) := by decide +kernel
theorem d_PO_indexOf_28 : decode b_PO_indexOf 28 = .ok (.goto (-26), 3) := by decide +kernel
theorem d_PO_indexOf_31 : decode b_PO_indexOf 31 = .ok (.iconst (-1), 1) := by decide +kernel
theorem d_PO_indexOf_32 : decode b_PO_indexOf 32 = .ok (.ireturn, 1) := by decide +kernel
theorem d_PO_remove_0 : decode b_PO_remove 0 = .ok (.aload_n 0, 1) := by decide +kernel
theorem d_PO_remove_1 : decode b_PO_remove 1 = .ok (.getfield 11, 3) := by decide +kernel
theorem d_PO_remove_4 : decode b_PO_remove 4 = .ok (.iload_n 1, 1) := by decide +kernel
theorem d_PO_remove_5 : decode b_PO_remove 5 = .ok (.aaload, 1) := by decide +kernel
theorem d_PO_remove_6 : decode b_PO_remove 6 = .ok (.astore_n 2, 1) := by decide +kernel
theorem d_PO_remove_7 : decode b_PO_remove 7 = .ok (.iload_n 1, 1) := by decide +kernel
theorem d_PO_remove_8 : decode b_PO_remove 8 = .ok (.iconst 1, 1) := by decide +kernel
theorem d_PO_remove_9 : decode b_PO_remove 9 = .ok (.iadd, 1) := by decide +kernel
theorem d_PO_remove_10 : decode b_PO_remove 10 = .ok (.istore_n 3, 1) := by decide +kernel
theorem d_PO_remove_11 : decode b_PO_remove 11 = .ok (.iload_n 3, 1) := by decide +kernel
theorem d_PO_remove_12 : decode b_PO_remove 12 = .ok (.aload_n 0, 1) := by decide +kernel
theorem d_PO_remove_13 : decode b_PO_remove 13 = .ok (.getfield 18, 3) := by decide +kernel
theorem d_PO_remove_16 : decode b_PO_remove 16 = .ok (.if_icmp .ge 23, 3) := by decide +kernel
theorem d_PO_remove_19 : decode b_PO_remove 19 = .ok (.aload_n 0, 1) := by decide +kernel
theorem d_PO_remove_20 : decode b_PO_remove 20 = .ok (.getfield 11, 3) := by decide +kernel
theorem d_PO_remove_23 : decode b_PO_remove 23 = .ok (.iload_n 3, 1) := by decide +kernel
theorem d_PO_remove_24 : decode b_PO_remove 24 = .ok (.iconst 1, 1) := by decide +kernel
theorem d_PO_remove_25 : decode b_PO_remove 25 = .ok (.isub, 1) := by decide +kernel
theorem d_PO_remove_26 : decode b_PO_remove 26 = .ok (.aload_n 0, 1) := by decide +kernel
theorem d_PO_remove_27 : decode b_PO_remove 27 = .ok (.getfield 11, 3) := by decide +kernel
theorem d_PO_remove_30 : decode b_PO_remove 30 = .ok (.iload_n 3, 1) := by decide +kernel
theorem d_PO_remove_31 : decode b_PO_remove 31 = .ok (.aaload, 1) := by decide +kernel
theorem d_PO_remove_32 : decode b_PO_remove 32 = .ok (.aastore, 1) := by decide +kernel
theorem d_PO_remove_33 : decode b_PO_remove 33 = .ok (.iinc 3 1, 3) := by decide +kernel
theorem d_PO_remove_36 : decode b_PO_remove 36 = .ok (.goto (-25), 3) := by decide +kernel
theorem d_PO_remove_39 : decode b_PO_remove 39 = .ok (.aload_n 0, 1) := by decide +kernel
theorem d_PO_remove_40 : decode b_PO_remove 40 = .ok (.dup, 1) := by decide +kernel
theorem d_PO_remove_41 : decode b_PO_remove 41 = .ok (.getfield 18, 3) := by decide +kernel
theorem d_PO_remove_44 : decode b_PO_remove 44 = .ok (.iconst 1, 1) := by decide +kernel
theorem d_PO_remove_45 : decode b_PO_remove 45 = .ok (.isub, 1) := by decide +kernel
theorem d_PO_remove_46 : decode b_PO_remove 46 = .ok (.putfield 18, 3) := by decide +kernel
theorem d_PO_remove_49 : decode b_PO_remove 49 = .ok (.aload_n 0, 1) := by decide +kernel
theorem d_PO_remove_50 : decode b_PO_remove 50 = .ok (.getfield 11, 3) := by decide +kernel
theorem d_PO_remove_53 : decode b_PO_remove 53 = .ok (.aload_n 0, 1) := by decide +kernel
theorem d_PO_remove_54 : decode b_PO_remove 54 = .ok (.getfield 18, 3) := by decide +kernel
theorem d_PO_remove_57 : decode b_PO_remove 57 = .ok (.aload_n 2, 1) := by decide +kernel
theorem d_PO_remove_58 : decode b_PO_remove 58 = .ok (.aastore, 1) := by decide +kernel
theorem d_PO_remove_59 : decode b_PO_remove 59 = .ok (.return_, 1) := by decide +kernel
theorem d_RA_init_0 : decode b_RA_init 0 = .ok (.aload_n 0, 1) := by decide +kernel
theorem d_RA_init_1 : decode b_RA_init 1 = .ok (.invokespecial 1, 3) := by decide +kernel
theorem d_RA_init_4 : decode b_RA_init 4 = .ok (.aload_n 0, 1) := by decide +kernel
theorem d_RA_init_5 : decode b_RA_init 5 = .ok (.iconst 1, 1) := by decide +kernel
theorem d_RA_init_6 : decode b_RA_init 6 = .ok (.putfield 7, 3) := by decide +kernel
theorem d_RA_init_9 : decode b_RA_init 9 = .ok (.return_, 1) := by decide +kernel
theorem d_RA_set_0 : decode b_RA_set 0 = .ok (.aload_n 0, 1) := by decide +kernel
theorem d_RA_set_1 : decode b_RA_set 1 = .ok (.iload_n 1, 1) := by decide +kernel
theorem d_RA_set_2 : decode b_RA_set 2 = .ok (.putfield 13, 3) := by decide +kernel
theorem d_RA_set_5 : decode b_RA_set 5 = .ok (.aload_n 0, 1) := by decide +kernel
theorem d_RA_set_6 : decode b_RA_set 6 = .ok (.iload_n 2, 1) := by decide +kernel
theorem d_RA_set_7 : decode b_RA_set 7 = .ok (.putfield 16, 3) := by decide +kernel
theorem d_RA_set_10 : decode b_RA_set 10 = .ok (.aload_n 0, 1) := by decide +kernel
theorem d_RA_set_11 : decode b_RA_set 11 = .ok (.iload_n 3, 1) := by decide +kernel
theorem d_RA_set_12 : decode b_RA_set 12 = .ok (.putfield 7, 3) := by decide +kernel
theorem d_RA_set_15 : decode b_RA_set 15 = .ok (.return_, 1) := by decide +kernel
theorem d_RA_fits_0 : decode b_RA_fits 0 = .ok (.iload_n 1, 1) := by decide +kernel
theorem d_RA_fits_1 : decode b_RA_fits 1 = .ok (.aload_n 0, 1) := by decide +kernel
theorem d_RA_fits_2 : decode b_RA_fits 2 = .ok (.getfield 13, 3) := by decide +kernel
theorem d_RA_fits_5 : decode b_RA_fits 5 = .ok (.if_icmp .lt 37, 3) := by decide +kernel
theorem d_RA_fits_8 : decode b_RA_fits 8 = .ok (.iload_n 1, 1) := by decide +kernel
theorem d_RA_fits_9 : decode b_RA_fits 9 = .ok (.aload_n 0, 1) := by decide +kernel
theorem d_RA_fits_10 : decode b_RA_fits 10 = .ok (.getfield 16, 3) := by decide +kernel
theorem d_RA_fits_13 : decode b_RA_fits 13 = .ok (.if_icmp .gt 29, 3) := by decide +kernel
theorem d_RA_fits_16 : decode b_RA_fits 16 = .ok (.aload_n 0, 1) := by decide +kernel
theorem d_RA_fits_17 : decode b_RA_fits 17 = .ok (.getfield 7, 3) := by decide +kernel
theorem d_RA_fits_20 : decode b_RA_fits 20 = .ok (.iconst 1, 1) := by decide +kernel
theorem d_RA_fits_21 : decode b_RA_fits 21 = .ok (.if_icmp .lt 21, 3) := by decide +kernel
theorem d_RA_fits_24 : decode b_RA_fits 24 = .ok (.iload_n 1, 1) := by decide +kernel
theorem d_RA_fits_25 : decode b_RA_fits 25 = .ok (.aload_n 0, 1) := by decide +kernel
theorem d_RA_fits_26 : decode b_RA_fits 26 = .ok (.getfield 13, 3) := by decide +kernel
theorem d_RA_fits_29 : decode b_RA_fits 29 = .ok (.isub, 1) := by decide +kernel
theorem d_RA_fits_30 : decode b_RA_fits 30 = .ok (.aload_n 0, 1) := by decide +kernel
theorem d_RA_fits_31 : decode b_RA_fits 31 = .ok (.getfield 7, 3) := by decide +kernel
theorem d_RA_fits_34 : decode b_RA_fits 34 = .ok (.irem, 1) := by decide +kernel
theorem d_RA_fits_35 : decode b_RA_fits 35 = .ok (.ifCond .ne 7, 3) := by decide +kernel
theorem d_RA_fits_38 : decode b_RA_fits 38 = .ok (.iconst 1, 1) := by decide +kernel
theorem d_RA_fits_39 : decode b_RA_fits 39 = .ok (.goto 4, 3) := by decide +kernel
theorem d_RA_fits_42 : decode b_RA_fits 42 = .ok (.iconst 0, 1) := by decide +kernel
theorem d_RA_fits_43 : decode b_RA_fits 43 = .ok (.ireturn, 1) := by decide +kernel
theorem d_SE_init_0 : decode b_SE_init 0 = .ok (.aload_n 0, 1) := by decide +kernel
theorem d_SE_init_1 : decode b_SE_init 1 = .ok (.invokespecial 3, 3) := by decide +kernel
theorem d_SE_init_4 : decode b_SE_init 4 = .ok (.aload_n 0, 1) := by decide +kernel
theorem d_SE_init_5 : decode b_SE_init 5 = .ok (.new 9, 3) := by decide +kernel
theorem d_SE_init_8 : decode b_SE_init 8 = .ok (.dup, 1) := by decide +kernel
theorem d_SE_init_9 : decode b_SE_init 9 = .ok (.invokespecial 11, 3) := by decide +kernel
theorem d_SE_init_12 : decode b_SE_init 12 = .ok (.putfield 12, 3) := by decide +kernel
theorem d_SE_init_15 : decode b_SE_init 15 = .ok (.aload_n 0, 1) := by decide +kernel
theorem d_SE_init_16 : decode b_SE_init 16 = .ok (.iconst (-1), 1) := by decide +kernel
theorem d_SE_init_17 : decode b_SE_init 17 = .ok (.putfield 18, 3) := by decide +kernel
theorem d_SE_init_20 : decode b_SE_init 20 = .ok (.aload_n 0, 1) := by decide +kernel
theorem d_SE_init_21 : decode b_SE_init 21 = .ok (.ldc 22, 2) := by decide +kernel
theorem d_SE_init_23 : decode b_SE_init 23 = .ok (.putfield 23, 3) := by decide +kernel
theorem d_SE_init_26 : decode b_SE_init 26 = .ok (.return_, 1) := by decide +kernel
theorem d_SE_describe_0 : decode b_SE_describe 0 = .ok (.aload_n 0, 1) := by decide +kernel
theorem d_SE_describe_1 : decode b_SE_describe 1 = .ok (.iconst 1, 1) := by decide +kernel
theorem d_SE_describe_2 : decode b_SE_describe 2 = .ok (.putfield 26, 3) := by decide +kernel
theorem d_SE_describe_5 : decode b_SE_describe 5 = .ok (.aload_n 0, 1) := by decide +kernel
theorem d_SE_describe_6 : decode b_SE_describe 6 = .ok (.getfield 12, 3) := by decide +kernel
theorem d_SE_describe_9 : decode b_SE_describe 9 = .ok (.iload_n 1, 1) := by decide +kernel
theorem d_SE_describe_10 : decode b_SE_describe 10 = .ok (.iload_n 2, 1) := by decide +kernel
theorem d_SE_describe_11 : decode b_SE_describe 11 = .ok (.iload_n 3, 1) := by decide +kernel
theorem d_SE_describe_12 : decode b_SE_describe 12 = .ok (.invokevirtual 30, 3) := by decide +kernel
theorem d_SE_describe_15 : decode b_SE_describe 15 = .ok (.aload_n 0, 1) := by decide +kernel
theorem d_SE_describe_16 : decode b_SE_describe 16 = .ok (.iload_n 1, 1) := by decide +kernel
theorem d_SE_describe_17 : decode b_SE_describe 17 = .ok (.putfield 34, 3) := by decide +kernel
theorem d_SE_describe_20 : decode b_SE_describe 20 = .ok (.return_, 1) := by decide +kernel
theorem d_SE_holderAt_0 : decode b_SE_holderAt 0 = .ok (.iload_n 1, 1) := by decide +kernel
theorem d_SE_holderAt_1 : decode b_SE_holderAt 1 = .ok (.aload_n 0, 1) := by decide +kernel
theorem d_SE_holderAt_2 : decode b_SE_holderAt 2 = .ok (.getfield 23, 3) := by decide +kernel
theorem d_SE_holderAt_5 : decode b_SE_holderAt 5 = .ok (.isub, 1) := by decide +kernel
theorem d_SE_holderAt_6 : decode b_SE_holderAt 6 = .ok (.sipush 10000, 3) := by decide +kernel
theorem d_SE_holderAt_9 : decode b_SE_holderAt 9 = .ok (.if_icmp .ge 10, 3) := by decide +kernel
theorem d_SE_holderAt_12 : decode b_SE_holderAt 12 = .ok (.aload_n 0, 1) := by decide +kernel
theorem d_SE_holderAt_13 : decode b_SE_holderAt 13 = .ok (.getfield 18, 3) := by decide +kernel
theorem d_SE_holderAt_16 : decode b_SE_holderAt 16 = .ok (.goto 4, 3) := by decide +kernel
theorem d_SE_holderAt_19 : decode b_SE_holderAt 19 = .ok (.iconst (-1), 1) := by decide +kernel
theorem d_SE_holderAt_20 : decode b_SE_holderAt 20 = .ok (.ireturn, 1) := by decide +kernel
end
section
theorem d_MO_init_0 : decode b_MO_init 0 = .ok (.aload_n 0, 1) := by decide +kernel
theorem d_MO_init_1 : decode b_MO_init 1 = .ok (.invokespecial 1, 3) := by decide +kernel
theorem d_MO_init_4 : decode b_MO_init 4 = .ok (.aload_n 0, 1) := by decide +kernel
theorem d_MO_init_5 : decode b_MO_init 5 = .ok (.iconst 4, 1) := by decide +kernel
theorem d_MO_init_6 : decode b_MO_init 6 = .ok (.newarray .int, 2) := by decide +kernel
theorem d_MO_init_8 : decode b_MO_init 8 = .ok (.putfield 7, 3) := by decide +kernel
theorem d_MO_init_11 : decode b_MO_init 11 = .ok (.aload_n 0, 1) := by decide +kernel
theorem d_MO_init_12 : decode b_MO_init 12 = .ok (.bipush 8, 2) := by decide +kernel
theorem d_MO_init_14 : decode b_MO_init 14 = .ok (.newarray .int, 2) := by decide +kernel
theorem d_MO_init_16 : decode b_MO_init 16 = .ok (.putfield 13, 3) := by decide +kernel
theorem d_MO_init_19 : decode b_MO_init 19 = .ok (.aload_n 0, 1) := by decide +kernel
theorem d_MO_init_20 : decode b_MO_init 20 = .ok (.bipush 8, 2) := by decide +kernel
theorem d_MO_init_22 : decode b_MO_init 22 = .ok (.newarray .int, 2) := by decide +kernel
theorem d_MO_init_24 : decode b_MO_init 24 = .ok (.putfield 16, 3) := by decide +kernel
theorem d_MO_init_27 : decode b_MO_init 27 = .ok (.aload_n 0, 1) := by decide +kernel
theorem d_MO_init_28 : decode b_MO_init 28 = .ok (.bipush 8, 2) := by decide +kernel
theorem d_MO_init_30 : decode b_MO_init 30 = .ok (.newarray .int, 2) := by decide +kernel
theorem d_MO_init_32 : decode b_MO_init 32 = .ok (.putfield 19, 3) := by decide +kernel
theorem d_MO_init_35 : decode b_MO_init 35 = .ok (.aload_n 0, 1) := by decide +kernel
theorem d_MO_init_36 : decode b_MO_init 36 = .ok (.bipush 8, 2) := by decide +kernel
theorem d_MO_init_38 : decode b_MO_init 38 = .ok (.newarray .int, 2) := by decide +kernel
theorem d_MO_init_40 : decode b_MO_init 40 = .ok (.putfield 22, 3) := by decide +kernel
theorem d_MO_init_43 : decode b_MO_init 43 = .ok (.aload_n 0, 1) := by decide +kernel
theorem d_MO_init_44 : decode b_MO_init 44 = .ok (.bipush 8, 2) := by decide +kernel
theorem d_MO_init_46 : decode b_MO_init 46 = .ok (.newarray .int, 2) := by decide +kernel
theorem d_MO_init_48 : decode b_MO_init 48 = .ok (.putfield 25, 3) := by decide +kernel
theorem d_MO_init_51 : decode b_MO_init 51 = .ok (.aload_n 0, 1) := by decide +kernel
theorem d_MO_init_52 : decode b_MO_init 52 = .ok (.bipush 8, 2) := by decide +kernel
theorem d_MO_init_54 : decode b_MO_init 54 = .ok (.newarray .boolean, 2) := by decide +kernel
theorem d_MO_init_56 : decode b_MO_init 56 = .ok (.putfield 28, 3) := by decide +kernel
theorem d_MO_init_59 : decode b_MO_init 59 = .ok (.aload_n 0, 1) := by decide +kernel
theorem d_MO_init_60 : decode b_MO_init 60 = .ok (.bipush 8, 2) := by decide +kernel
theorem d_MO_init_62 : decode b_MO_init 62 = .ok (.newarray .boolean, 2) := by decide +kernel
theorem d_MO_init_64 : decode b_MO_init 64 = .ok (.putfield 32, 3) := by decide +kernel
theorem d_MO_init_67 : decode b_MO_init 67 = .ok (.aload_n 0, 1) := by decide +kernel
theorem d_MO_init_68 : decode b_MO_init 68 = .ok (.bipush 8, 2) := by decide +kernel
theorem d_MO_init_70 : decode b_MO_init 70 = .ok (.newarray .int, 2) := by decide +kernel
theorem d_MO_init_72 : decode b_MO_init 72 = .ok (.putfield 35, 3) := by decide +kernel
theorem d_MO_init_75 : decode b_MO_init 75 = .ok (.aload_n 0, 1) := by decide +kernel
theorem d_MO_init_76 : decode b_MO_init 76 = .ok (.bipush 8, 2) := by decide +kernel
theorem d_MO_init_78 : decode b_MO_init 78 = .ok (.newarray .int, 2) := by decide +kernel
theorem d_MO_init_80 : decode b_MO_init 80 = .ok (.putfield 38, 3) := by decide +kernel
theorem d_MO_init_83 : decode b_MO_init 83 = .ok (.aload_n 0, 1) := by decide +kernel
theorem d_MO_init_84 : decode b_MO_init 84 = .ok (.bipush 8, 2) := by decide +kernel
theorem d_MO_init_86 : decode b_MO_init 86 = .ok (.newarray .int, 2) := by decide +kernel
theorem d_MO_init_88 : decode b_MO_init 88 = .ok (.putfield 41, 3) := by decide +kernel
theorem d_MO_init_91 : decode b_MO_init 91 = .ok (.aload_n 0, 1) := by decide +kernel
theorem d_MO_init_92 : decode b_MO_init 92 = .ok (.bipush 8, 2) := by decide +kernel
theorem d_MO_init_94 : decode b_MO_init 94 = .ok (.newarray .int, 2) := by decide +kernel
theorem d_MO_init_96 : decode b_MO_init 96 = .ok (.putfield 44, 3) := by decide +kernel
theorem d_MO_init_99 : decode b_MO_init 99 = .ok (.aload_n 0, 1) := by decide +kernel
theorem d_MO_init_100 : decode b_MO_init 100 = .ok (.bipush 8, 2) := by decide +kernel
theorem d_MO_init_102 : decode b_MO_init 102 = .ok (.newarray .int, 2) := by decide +kernel
theorem d_MO_init_104 : decode b_MO_init 104 = .ok (.putfield 47, 3) := by decide +kernel
theorem d_MO_init_107 : decode b_MO_init 107 = .ok (.aload_n 0, 1) := by decide +kernel
theorem d_MO_init_108 : decode b_MO_init 108 = .ok (.bipush 8, 2) := by decide +kernel
theorem d_MO_init_110 : decode b_MO_init 110 = .ok (.newarray .int, 2) := by decide +kernel
theorem d_MO_init_112 : decode b_MO_init 112 = .ok (.putfield 50, 3) := by decide +kernel
theorem d_MO_init_115 : decode b_MO_init 115 = .ok (.aload_n 0, 1) := by decide +kernel
theorem d_MO_init_116 : decode b_MO_init 116 = .ok (.bipush 8, 2) := by decide +kernel
theorem d_MO_init_118 : decode b_MO_init 118 = .ok (.newarray .int, 2) := by decide +kernel
theorem d_MO_init_120 : decode b_MO_init 120 = .ok (.putfield 53, 3) := by decide +kernel
theorem d_MO_init_123 : decode b_MO_init 123 = .ok (.aload_n 0, 1) := by decide +kernel
theorem d_MO_init_124 : decode b_MO_init 124 = .ok (.bipush 32, 2) := by decide +kernel
theorem d_MO_init_126 : decode b_MO_init 126 = .ok (.newarray .int, 2) := by decide +kernel
theorem d_MO_init_128 : decode b_MO_init 128 = .ok (.putfield 56, 3) := by decide +kernel
theorem d_MO_init_131 : decode b_MO_init 131 = .ok (.aload_n 0, 1) := by decide +kernel
theorem d_MO_init_132 : decode b_MO_init 132 = .ok (.bipush 32, 2) := by decide +kernel
theorem d_MO_init_134 : decode b_MO_init 134 = .ok (.newarray .int, 2) := by decide +kernel
theorem d_MO_init_136 : decode b_MO_init 136 = .ok (.putfield 59, 3) := by decide +kernel
theorem d_MO_init_139 : decode b_MO_init 139 = .ok (.aload_n 0, 1) := by decide +kernel
theorem d_MO_init_140 : decode b_MO_init 140 = .ok (.bipush 32, 2) := by decide +kernel
theorem d_MO_init_142 : decode b_MO_init 142 = .ok (.newarray .int, 2) := by decide +kernel
theorem d_MO_init_144 : decode b_MO_init 144 = .ok (.putfield 62, 3) := by decide +kernel
theorem d_MO_init_147 : decode b_MO_init 147 = .ok (.aload_n 0, 1) := by decide +kernel
theorem d_MO_init_148 : decode b_MO_init 148 = .ok (.bipush 32, 2) := by decide +kernel
theorem d_MO_init_150 : decode b_MO_init 150 = .ok (.newarray .int, 2) := by decide +kernel
theorem d_MO_init_152 : decode b_MO_init 152 = .ok (.putfield 65, 3) := by decide +kernel
theorem d_MO_init_155 : decode b_MO_init 155 = .ok (.aload_n 0, 1) := by decide +kernel
theorem d_MO_init_156 : decode b_MO_init 156 = .ok (.bipush 32, 2) := by decide +kernel
theorem d_MO_init_158 : decode b_MO_init 158 = .ok (.newarray .int, 2) := by decide +kernel
theorem d_MO_init_160 : decode b_MO_init 160 = .ok (.putfield 68, 3) := by decide +kernel
theorem d_MO_init_163 : decode b_MO_init 163 = .ok (.aload_n 0, 1) := by decide +kernel
theorem d_MO_init_164 : decode b_MO_init 164 = .ok (.bipush 32, 2) := by decide +kernel
theorem d_MO_init_166 : decode b_MO_init 166 = .ok (.newarray .int, 2) := by decide +kernel
theorem d_MO_init_168 : decode b_MO_init 168 = .ok (.putfield 71, 3) := by decide +kernel
theorem d_MO_init_171 : decode b_MO_init 171 = .ok (.aload_n 0, 1) := by decide +kernel
theorem d_MO_init_172 : decode b_MO_init 172 = .ok (.bipush 32, 2) := by decide +kernel
theorem d_MO_init_174 : decode b_MO_init 174 = .ok (.newarray .int, 2) := by decide +kernel
theorem d_MO_init_176 : decode b_MO_init 176 = .ok (.putfield 74, 3) := by decide +kernel
theorem d_MO_init_179 : decode b_MO_init 179 = .ok (.aload_n 0, 1) := by decide +kernel
theorem d_MO_init_180 : decode b_MO_init 180 = .ok (.bipush 32, 2) := by decide +kernel
theorem d_MO_init_182 : decode b_MO_init 182 = .ok (.newarray .boolean, 2) := by decide +kernel
theorem d_MO_init_184 : decode b_MO_init 184 = .ok (.putfield 77, 3) := by decide +kernel
theorem d_MO_init_187 : decode b_MO_init 187 = .ok (.aload_n 0, 1) := by decide +kernel
theorem d_MO_init_188 : decode b_MO_init 188 = .ok (.bipush 32, 2) := by decide +kernel
theorem d_MO_init_190 : decode b_MO_init 190 = .ok (.newarray .boolean, 2) := by decide +kernel
theorem d_MO_init_192 : decode b_MO_init 192 = .ok (.putfield 80, 3) := by decide +kernel
theorem d_MO_init_195 : decode b_MO_init 195 = .ok (.aload_n 0, 1) := by decide +kernel
theorem d_MO_init_196 : decode b_MO_init 196 = .ok (.bipush 32, 2) := by decide +kernel
theorem d_MO_init_198 : decode b_MO_init 198 = .ok (.newarray .int, 2) := by decide +kernel
theorem d_MO_init_200 : decode b_MO_init 200 = .ok (.putfield 83, 3) := by decide +kernel
theorem d_MO_init_203 : decode b_MO_init 203 = .ok (.aload_n 0, 1) := by decide +kernel
theorem d_MO_init_204 : decode b_MO_init 204 = .ok (.bipush 32, 2) := by decide +kernel
theorem d_MO_init_206 : decode b_MO_init 206 = .ok (.newarray .int, 2) := by decide +kernel
theorem d_MO_init_208 : decode b_MO_init 208 = .ok (.putfield 86, 3) := by decide +kernel
theorem d_MO_init_211 : decode b_MO_init 211 = .ok (.aload_n 0, 1) := by decide +kernel
theorem d_MO_init_212 : decode b_MO_init 212 = .ok (.bipush 32, 2) := by decide +kernel
theorem d_MO_init_214 : decode b_MO_init 214 = .ok (.newarray .int, 2) := by decide +kernel
theorem d_MO_init_216 : decode b_MO_init 216 = .ok (.putfield 89, 3) := by decide +kernel
theorem d_MO_init_219 : decode b_MO_init 219 = .ok (.aload_n 0, 1) := by decide +kernel
theorem d_MO_init_220 : decode b_MO_init 220 = .ok (.bipush 32, 2) := by decide +kernel
theorem d_MO_init_222 : decode b_MO_init 222 = .ok (.newarray .int, 2) := by decide +kernel
theorem d_MO_init_224 : decode b_MO_init 224 = .ok (.putfield 92, 3) := by decide +kernel
theorem d_MO_init_227 : decode b_MO_init 227 = .ok (.aload_n 0, 1) := by decide +kernel
theorem d_MO_init_228 : decode b_MO_init 228 = .ok (.bipush 32, 2) := by decide +kernel
theorem d_MO_init_230 : decode b_MO_init 230 = .ok (.newarray .int, 2) := by decide +kernel
theorem d_MO_init_232 : decode b_MO_init 232 = .ok (.putfield 95, 3) := by decide +kernel
theorem d_MO_init_235 : decode b_MO_init 235 = .ok (.aload_n 0, 1) := by decide +kernel
theorem d_MO_init_236 : decode b_MO_init 236 = .ok (.bipush 32, 2) := by decide +kernel
theorem d_MO_init_238 : decode b_MO_init 238 = .ok (.newarray .boolean, 2) := by decide +kernel
theorem d_MO_init_240 : decode b_MO_init 240 = .ok (.putfield 98, 3) := by decide +kernel
theorem d_MO_init_243 : decode b_MO_init 243 = .ok (.aload_n 0, 1) := by decide +kernel
theorem d_MO_init_244 : decode b_MO_init 244 = .ok (.bipush 32, 2) := by decide +kernel
theorem d_MO_init_246 : decode b_MO_init 246 = .ok (.newarray .boolean, 2) := by decide +kernel
theorem d_MO_init_248 : decode b_MO_init 248 = .ok (.putfield 101, 3) := by decide +kernel
theorem d_MO_init_251 : decode b_MO_init 251 = .ok (.aload_n 0, 1) := by decide +kernel
theorem d_MO_init_252 : decode b_MO_init 252 = .ok (.bipush 32, 2) := by decide +kernel
theorem d_MO_init_254 : decode b_MO_init 254 = .ok (.newarray .int, 2) := by decide +kernel
theorem d_MO_init_256 : decode b_MO_init 256 = .ok (.putfield 104, 3) := by decide +kernel
theorem d_MO_init_259 : decode b_MO_init 259 = .ok (.aload_n 0, 1) := by decide +kernel
theorem d_MO_init_260 : decode b_MO_init 260 = .ok (.bipush 32, 2) := by decide +kernel
theorem d_MO_init_262 : decode b_MO_init 262 = .ok (.newarray .int, 2) := by decide +kernel
theorem d_MO_init_264 : decode b_MO_init 264 = .ok (.putfield 107, 3) := by decide +kernel
theorem d_MO_init_267 : decode b_MO_init 267 = .ok (.aload_n 0, 1) := by decide +kernel
theorem d_MO_init_268 : decode b_MO_init 268 = .ok (.bipush 32, 2) := by decide +kernel
theorem d_MO_init_270 : decode b_MO_init 270 = .ok (.newarray .int, 2) := by decide +kernel
theorem d_MO_init_272 : decode b_MO_init 272 = .ok (.putfield 110, 3) := by decide +kernel
theorem d_MO_init_275 : decode b_MO_init 275 = .ok (.aload_n 0, 1) := by decide +kernel
theorem d_MO_init_276 : decode b_MO_init 276 = .ok (.bipush 8, 2) := by decide +kernel
theorem d_MO_init_278 : decode b_MO_init 278 = .ok (.newarray .int, 2) := by decide +kernel
theorem d_MO_init_280 : decode b_MO_init 280 = .ok (.putfield 113, 3) := by decide +kernel
theorem d_MO_init_283 : decode b_MO_init 283 = .ok (.aload_n 0, 1) := by decide +kernel
theorem d_MO_init_284 : decode b_MO_init 284 = .ok (.bipush 64, 2) := by decide +kernel
theorem d_MO_init_286 : decode b_MO_init 286 = .ok (.newarray .int, 2) := by decide +kernel
theorem d_MO_init_288 : decode b_MO_init 288 = .ok (.putfield 116, 3) := by decide +kernel
theorem d_MO_init_291 : decode b_MO_init 291 = .ok (.aload_n 0, 1) := by decide +kernel
theorem d_MO_init_292 : decode b_MO_init 292 = .ok (.bipush 64, 2) := by decide +kernel
theorem d_MO_init_294 : decode b_MO_init 294 = .ok (.newarray .int, 2) := by decide +kernel
theorem d_MO_init_296 : decode b_MO_init 296 = .ok (.putfield 119, 3) := by decide +kernel
theorem d_MO_init_299 : decode b_MO_init 299 = .ok (.aload_n 0, 1) := by decide +kernel
theorem d_MO_init_300 : decode b_MO_init 300 = .ok (.bipush 64, 2) := by decide +kernel
theorem d_MO_init_302 : decode b_MO_init 302 = .ok (.newarray .int, 2) := by decide +kernel
theorem d_MO_init_304 : decode b_MO_init 304 = .ok (.putfield 122, 3) := by decide +kernel
theorem d_MO_init_307 : decode b_MO_init 307 = .ok (.aload_n 0, 1) := by decide +kernel
theorem d_MO_init_308 : decode b_MO_init 308 = .ok (.bipush 64, 2) := by decide +kernel
theorem d_MO_init_310 : decode b_MO_init 310 = .ok (.newarray .int, 2) := by decide +kernel
theorem d_MO_init_312 : decode b_MO_init 312 = .ok (.putfield 125, 3) := by decide +kernel
theorem d_MO_init_315 : decode b_MO_init 315 = .ok (.aload_n 0, 1) := by decide +kernel
theorem d_MO_init_316 : decode b_MO_init 316 = .ok (.bipush 64, 2) := by decide +kernel
theorem d_MO_init_318 : decode b_MO_init 318 = .ok (.newarray .int, 2) := by decide +kernel
theorem d_MO_init_320 : decode b_MO_init 320 = .ok (.putfield 128, 3) := by decide +kernel
theorem d_MO_init_323 : decode b_MO_init 323 = .ok (.aload_n 0, 1) := by decide +kernel
theorem d_MO_init_324 : decode b_MO_init 324 = .ok (.bipush 64, 2) := by decide +kernel
theorem d_MO_init_326 : decode b_MO_init 326 = .ok (.newarray .int, 2) := by decide +kernel
theorem d_MO_init_328 : decode b_MO_init 328 = .ok (.putfield 131, 3) := by decide +kernel
theorem d_MO_init_331 : decode b_MO_init 331 = .ok (.aload_n 0, 1) := by decide +kernel
theorem d_MO_init_332 : decode b_MO_init 332 = .ok (.bipush 64, 2) := by decide +kernel
theorem d_MO_init_334 : decode b_MO_init 334 = .ok (.newarray .int, 2) := by decide +kernel
theorem d_MO_init_336 : decode b_MO_init 336 = .ok (.putfield 134, 3) := by decide +kernel
theorem d_MO_init_339 : decode b_MO_init 339 = .ok (.aload_n 0, 1) := by decide +kernel
theorem d_MO_init_340 : decode b_MO_init 340 = .ok (.bipush 64, 2) := by decide +kernel
theorem d_MO_init_342 : decode b_MO_init 342 = .ok (.newarray .int, 2) := by decide +kernel
theorem d_MO_init_344 : decode b_MO_init 344 = .ok (.putfield 137, 3) := by decide +kernel
theorem d_MO_init_347 : decode b_MO_init 347 = .ok (.aload_n 0, 1) := by decide +kernel
theorem d_MO_init_348 : decode b_MO_init 348 = .ok (.bipush 16, 2) := by decide +kernel
theorem d_MO_init_350 : decode b_MO_init 350 = .ok (.newarray .int, 2) := by decide +kernel
theorem d_MO_init_352 : decode b_MO_init 352 = .ok (.putfield 140, 3) := by decide +kernel
theorem d_MO_init_355 : decode b_MO_init 355 = .ok (.aload_n 0, 1) := by decide +kernel
theorem d_MO_init_356 : decode b_MO_init 356 = .ok (.bipush 16, 2) := by decide +kernel
theorem d_MO_init_358 : decode b_MO_init 358 = .ok (.newarray .int, 2) := by decide +kernel
theorem d_MO_init_360 : decode b_MO_init 360 = .ok (.putfield 143, 3) := by decide +kernel
theorem d_MO_init_363 : decode b_MO_init 363 = .ok (.aload_n 0, 1) := by decide +kernel
theorem d_MO_init_364 : decode b_MO_init 364 = .ok (.bipush 16, 2) := by decide +kernel
theorem d_MO_init_366 : decode b_MO_init 366 = .ok (.newarray .int, 2) := by decide +kernel
theorem d_MO_init_368 : decode b_MO_init 368 = .ok (.putfield 146, 3) := by decide +kernel
theorem d_MO_init_371 : decode b_MO_init 371 = .ok (.aload_n 0, 1) := by decide +kernel
theorem d_MO_init_372 : decode b_MO_init 372 = .ok (.bipush 16, 2) := by decide +kernel
theorem d_MO_init_374 : decode b_MO_init 374 = .ok (.newarray .int, 2) := by decide +kernel
theorem d_MO_init_376 : decode b_MO_init 376 = .ok (.putfield 149, 3) := by decide +kernel
theorem d_MO_init_379 : decode b_MO_init 379 = .ok (.aload_n 0, 1) := by decide +kernel
theorem d_MO_init_380 : decode b_MO_init 380 = .ok (.bipush 16, 2) := by decide +kernel
theorem d_MO_init_382 : decode b_MO_init 382 = .ok (.newarray .int, 2) := by decide +kernel
theorem d_MO_init_384 : decode b_MO_init 384 = .ok (.putfield 152, 3) := by decide +kernel
theorem d_MO_init_387 : decode b_MO_init 387 = .ok (.aload_n 0, 1) := by decide +kernel
theorem d_MO_init_388 : decode b_MO_init 388 = .ok (.bipush 16, 2) := by decide +kernel
theorem d_MO_init_390 : decode b_MO_init 390 = .ok (.newarray .int, 2) := by decide +kernel
theorem d_MO_init_392 : decode b_MO_init 392 = .ok (.putfield 155, 3) := by decide +kernel
theorem d_MO_init_395 : decode b_MO_init 395 = .ok (.aload_n 0, 1) := by decide +kernel
theorem d_MO_init_396 : decode b_MO_init 396 = .ok (.bipush 16, 2) := by decide +kernel
theorem d_MO_init_398 : decode b_MO_init 398 = .ok (.newarray .int, 2) := by decide +kernel
theorem d_MO_init_400 : decode b_MO_init 400 = .ok (.putfield 158, 3) := by decide +kernel
theorem d_MO_init_403 : decode b_MO_init 403 = .ok (.aload_n 0, 1) := by decide +kernel
theorem d_MO_init_404 : decode b_MO_init 404 = .ok (.bipush 100, 2) := by decide +kernel
theorem d_MO_init_406 : decode b_MO_init 406 = .ok (.newarray .int, 2) := by decide +kernel
theorem d_MO_init_408 : decode b_MO_init 408 = .ok (.putfield 161, 3) := by decide +kernel
theorem d_MO_init_411 : decode b_MO_init 411 = .ok (.aload_n 0, 1) := by decide +kernel
theorem d_MO_init_412 : decode b_MO_init 412 = .ok (.bipush 100, 2) := by decide +kernel
theorem d_MO_init_414 : decode b_MO_init 414 = .ok (.newarray .int, 2) := by decide +kernel
theorem d_MO_init_416 : decode b_MO_init 416 = .ok (.putfield 164, 3) := by decide +kernel
theorem d_MO_init_419 : decode b_MO_init 419 = .ok (.aload_n 0, 1) := by decide +kernel
theorem d_MO_init_420 : decode b_MO_init 420 = .ok (.bipush 100, 2) := by decide +kernel
theorem d_MO_init_422 : decode b_MO_init 422 = .ok (.newarray .int, 2) := by decide +kernel
theorem d_MO_init_424 : decode b_MO_init 424 = .ok (.putfield 167, 3) := by decide +kernel
theorem d_MO_init_427 : decode b_MO_init 427 = .ok (.aload_n 0, 1) := by decide +kernel
theorem d_MO_init_428 : decode b_MO_init 428 = .ok (.bipush 100, 2) := by decide +kernel
theorem d_MO_init_430 : decode b_MO_init 430 = .ok (.newarray .int, 2) := by decide +kernel
theorem d_MO_init_432 : decode b_MO_init 432 = .ok (.putfield 170, 3) := by decide +kernel
theorem d_MO_init_435 : decode b_MO_init 435 = .ok (.aload_n 0, 1) := by decide +kernel
theorem d_MO_init_436 : decode b_MO_init 436 = .ok (.bipush 100, 2) := by decide +kernel
theorem d_MO_init_438 : decode b_MO_init 438 = .ok (.newarray .int, 2) := by decide +kernel
theorem d_MO_init_440 : decode b_MO_init 440 = .ok (.putfield 173, 3) := by decide +kernel
theorem d_MO_init_443 : decode b_MO_init 443 = .ok (.iconst 0, 1) := by decide +kernel
theorem d_MO_init_444 : decode b_MO_init 444 = .ok (.istore_n 1, 1) := by decide +kernel
theorem d_MO_init_445 : decode b_MO_init 445 = .ok (.iload_n 1, 1) := by decide +kernel
theorem d_MO_init_446 : decode b_MO_init 446 = .ok (.bipush 8, 2) := by decide +kernel
theorem d_MO_init_448 : decode b_MO_init 448 = .ok (.if_icmp .ge 36, 3) := by decide +kernel
theorem d_MO_init_451 : decode b_MO_init 451 = .ok (.aload_n 0, 1) := by decide +kernel
theorem d_MO_init_452 : decode b_MO_init 452 = .ok (.getfield 19, 3) := by decide +kernel
theorem d_MO_init_455 : decode b_MO_init 455 = .ok (.iload_n 1, 1) := by decide +kernel
theorem d_MO_init_456 : decode b_MO_init 456 = .ok (.iconst 1, 1) := by decide +kernel
theorem d_MO_init_457 : decode b_MO_init 457 = .ok (.iastore, 1) := by decide +kernel
theorem d_MO_init_458 : decode b_MO_init 458 = .ok (.aload_n 0, 1) := by decide +kernel
theorem d_MO_init_459 : decode b_MO_init 459 = .ok (.getfield 16, 3) := by decide +kernel
theorem d_MO_init_462 : decode b_MO_init 462 = .ok (.iload_n 1, 1) := by decide +kernel
theorem d_MO_init_463 : decode b_MO_init 463 = .ok (.iconst (-1), 1) := by decide +kernel
theorem d_MO_init_464 : decode b_MO_init 464 = .ok (.iastore, 1) := by decide +kernel
theorem d_MO_init_465 : decode b_MO_init 465 = .ok (.aload_n 0, 1) := by decide +kernel
theorem d_MO_init_466 : decode b_MO_init 466 = .ok (.iload_n 1, 1) := by decide +kernel
theorem d_MO_init_467 : decode b_MO_init 467 = .ok (.invokevirtual 176, 3) := by decide +kernel
theorem d_MO_init_470 : decode b_MO_init 470 = .ok (.aload_n 0, 1) := by decide +kernel
theorem d_MO_init_471 : decode b_MO_init 471 = .ok (.getfield 113, 3) := by decide +kernel
theorem d_MO_init_474 : decode b_MO_init 474 = .ok (.iload_n 1, 1) := by decide +kernel
theorem d_MO_init_475 : decode b_MO_init 475 = .ok (.ldc 180, 2) := by decide +kernel
theorem d_MO_init_477 : decode b_MO_init 477 = .ok (.iastore, 1) := by decide +kernel
theorem d_MO_init_478 : decode b_MO_init 478 = .ok (.iinc 1 1, 3) := by decide +kernel
theorem d_MO_init_481 : decode b_MO_init 481 = .ok (.goto (-36), 3) := by decide +kernel
theorem d_MO_init_484 : decode b_MO_init 484 = .ok (.return_, 1) := by decide +kernel
theorem d_MO_thrown_0 : decode b_MO_thrown 0 = .ok (.aload_n 0, 1) := by decide +kernel
theorem d_MO_thrown_1 : decode b_MO_thrown 1 = .ok (.getfield 181, 3) := by decide +kernel
theorem d_MO_thrown_4 : decode b_MO_thrown 4 = .ok (.ireturn, 1) := by decide +kernel
theorem d_MO_isDevice_0 : decode b_MO_isDevice 0 = .ok (.iload_n 0, 1) := by decide +kernel
theorem d_MO_isDevice_1 : decode b_MO_isDevice 1 = .ok (.ifCond .lt 13, 3) := by decide +kernel
theorem d_MO_isDevice_4 : decode b_MO_isDevice 4 = .ok (.iload_n 0, 1) := by decide +kernel
theorem d_MO_isDevice_5 : decode b_MO_isDevice 5 = .ok (.bipush 8, 2) := by decide +kernel
theorem d_MO_isDevice_7 : decode b_MO_isDevice 7 = .ok (.if_icmp .ge 7, 3) := by decide +kernel
theorem d_MO_isDevice_10 : decode b_MO_isDevice 10 = .ok (.iconst 1, 1) := by decide +kernel
theorem d_MO_isDevice_11 : decode b_MO_isDevice 11 = .ok (.goto 4, 3) := by decide +kernel
theorem d_MO_isDevice_14 : decode b_MO_isDevice 14 = .ok (.iconst 0, 1) := by decide +kernel
theorem d_MO_isDevice_15 : decode b_MO_isDevice 15 = .ok (.ireturn, 1) := by decide +kernel
theorem d_MO_isBed_0 : decode b_MO_isBed 0 = .ok (.iload_n 0, 1) := by decide +kernel
theorem d_MO_isBed_1 : decode b_MO_isBed 1 = .ok (.ifCond .lt 12, 3) := by decide +kernel
theorem d_MO_isBed_4 : decode b_MO_isBed 4 = .ok (.iload_n 0, 1) := by decide +kernel
theorem d_MO_isBed_5 : decode b_MO_isBed 5 = .ok (.iconst 4, 1) := by decide +kernel
theorem d_MO_isBed_6 : decode b_MO_isBed 6 = .ok (.if_icmp .ge 7, 3) := by decide +kernel
theorem d_MO_isBed_9 : decode b_MO_isBed 9 = .ok (.iconst 1, 1) := by decide +kernel
theorem d_MO_isBed_10 : decode b_MO_isBed 10 = .ok (.goto 4, 3) := by decide +kernel
theorem d_MO_isBed_13 : decode b_MO_isBed 13 = .ok (.iconst 0, 1) := by decide +kernel
theorem d_MO_isBed_14 : decode b_MO_isBed 14 = .ok (.ireturn, 1) := by decide +kernel
theorem d_MO_isAt_0 : decode b_MO_isAt 0 = .ok (.iload_n 1, 1) := by decide +kernel
theorem d_MO_isAt_1 : decode b_MO_isAt 1 = .ok (.invokestatic 185, 3) := by decide +kernel
theorem d_MO_isAt_4 : decode b_MO_isAt 4 = .ok (.ifCond .eq 28, 3) := by decide +kernel
theorem d_MO_isAt_7 : decode b_MO_isAt 7 = .ok (.aload_n 0, 1) := by decide +kernel
theorem d_MO_isAt_8 : decode b_MO_isAt 8 = .ok (.getfield 13, 3) := by decide +kernel
theorem d_MO_isAt_11 : decode b_MO_isAt 11 = .ok (.iload_n 1, 1) := by decide +kernel
theorem d_MO_isAt_12 : decode b_MO_isAt 12 = .ok (.invokestatic 185, 3) := by decide +kernel
theorem d_MO_isAt_15 : decode b_MO_isAt 15 = .ok (.ifCond .eq 7, 3) := by decide +kernel
theorem d_MO_isAt_18 : decode b_MO_isAt 18 = .ok (.iload_n 1, 1) := by decide +kernel
theorem d_MO_isAt_19 : decode b_MO_isAt 19 = .ok (.goto 4, 3) := by decide +kernel
theorem d_MO_isAt_22 : decode b_MO_isAt 22 = .ok (.iconst 0, 1) := by decide +kernel
theorem d_MO_isAt_23 : decode b_MO_isAt 23 = .ok (.iaload, 1) := by decide +kernel
theorem d_MO_isAt_24 : decode b_MO_isAt 24 = .ok (.iload_n 2, 1) := by decide +kernel
theorem d_MO_isAt_25 : decode b_MO_isAt 25 = .ok (.if_icmp .ne 7, 3) := by decide +kernel
theorem d_MO_isAt_28 : decode b_MO_isAt 28 = .ok (.iconst 1, 1) := by decide +kernel
theorem d_MO_isAt_29 : decode b_MO_isAt 29 = .ok (.goto 4, 3) := by decide +kernel
theorem d_MO_isAt_32 : decode b_MO_isAt 32 = .ok (.iconst 0, 1) := by decide +kernel
theorem d_MO_isAt_33 : decode b_MO_isAt 33 = .ok (.ireturn, 1) := by decide +kernel
theorem d_MO_isChannel_0 : decode b_MO_isChannel 0 = .ok (.iload_n 1, 1) := by decide +kernel
theorem d_MO_isChannel_1 : decode b_MO_isChannel 1 = .ok (.invokestatic 185, 3) := by decide +kernel
theorem d_MO_isChannel_4 : decode b_MO_isChannel 4 = .ok (.ifCond .eq 32, 3) := by decide +kernel
theorem d_MO_isChannel_7 : decode b_MO_isChannel 7 = .ok (.iload_n 2, 1) := by decide +kernel
theorem d_MO_isChannel_8 : decode b_MO_isChannel 8 = .ok (.ifCond .lt 28, 3) := by decide +kernel
theorem d_MO_isChannel_11 : decode b_MO_isChannel 11 = .ok (.iload_n 2, 1) := by decide +kernel
theorem d_MO_isChannel_12 : decode b_MO_isChannel 12 = .ok (.aload_n 0, 1) := by decide +kernel
theorem d_MO_isChannel_13 : decode b_MO_isChannel 13 = .ok (.getfield 22, 3) := by decide +kernel
theorem d_MO_isChannel_16 : decode b_MO_isChannel 16 = .ok (.iload_n 1, 1) := by decide +kernel
theorem d_MO_isChannel_17 : decode b_MO_isChannel 17 = .ok (.invokestatic 185, 3) := by decide +kernel
theorem d_MO_isChannel_20 : decode b_MO_isChannel 20 = .ok (.ifCond .eq 7, 3) := by decide +kernel
theorem d_MO_isChannel_23 : decode b_MO_isChannel 23 = .ok (.iload_n 1, 1) := by decide +kernel
theorem d_MO_isChannel_24 : decode b_MO_isChannel 24 = .ok (.goto 4, 3) := by decide +kernel
theorem d_MO_isChannel_27 : decode b_MO_isChannel 27 = .ok (.iconst 0, 1) := by decide +kernel
theorem d_MO_isChannel_28 : decode b_MO_isChannel 28 = .ok (.iaload, 1) := by decide +kernel
theorem d_MO_isChannel_29 : decode b_MO_isChannel 29 = .ok (.if_icmp .ge 7, 3) := by decide +kernel
theorem d_MO_isChannel_32 : decode b_MO_isChannel 32 = .ok (.iconst 1, 1) := by decide +kernel
theorem d_MO_isChannel_33 : decode b_MO_isChannel 33 = .ok (.goto 4, 3) := by decide +kernel
theorem d_MO_isChannel_36 : decode b_MO_isChannel 36 = .ok (.iconst 0, 1) := by decide +kernel
theorem d_MO_isChannel_37 : decode b_MO_isChannel 37 = .ok (.ireturn, 1) := by decide +kernel
theorem d_MO_isNumber_0 : decode b_MO_isNumber 0 = .ok (.iload_n 0, 1) := by decide +kernel
theorem d_MO_isNumber_1 : decode b_MO_isNumber 1 = .ok (.ldc 189, 2) := by decide +kernel
theorem d_MO_isNumber_3 : decode b_MO_isNumber 3 = .ok (.if_icmp .lt 13, 3) := by decide +kernel
theorem d_MO_isNumber_6 : decode b_MO_isNumber 6 = .ok (.iload_n 0, 1) := by decide +kernel
theorem d_MO_isNumber_7 : decode b_MO_isNumber 7 = .ok (.ldc 190, 2) := by decide +kernel
theorem d_MO_isNumber_9 : decode b_MO_isNumber 9 = .ok (.if_icmp .gt 7, 3) := by decide +kernel
theorem d_MO_isNumber_12 : decode b_MO_isNumber 12 = .ok (.iconst 1, 1) := by decide +kernel
theorem d_MO_isNumber_13 : decode b_MO_isNumber 13 = .ok (.goto 4, 3) := by decide +kernel
theorem d_MO_isNumber_16 : decode b_MO_isNumber 16 = .ok (.iconst 0, 1) := by decide +kernel
theorem d_MO_isNumber_17 : decode b_MO_isNumber 17 = .ok (.ireturn, 1) := by decide +kernel
theorem d_MO_isRange_0 : decode b_MO_isRange 0 = .ok (.iload_n 0, 1) := by decide +kernel
theorem d_MO_isRange_1 : decode b_MO_isRange 1 = .ok (.invokestatic 191, 3) := by decide +kernel
theorem d_MO_isRange_4 : decode b_MO_isRange 4 = .ok (.ifCond .eq 30, 3) := by decide +kernel
theorem d_MO_isRange_7 : decode b_MO_isRange 7 = .ok (.iload_n 1, 1) := by decide +kernel
theorem d_MO_isRange_8 : decode b_MO_isRange 8 = .ok (.invokestatic 191, 3) := by decide +kernel
theorem d_MO_isRange_11 : decode b_MO_isRange 11 = .ok (.ifCond .eq 23, 3) := by decide +kernel
theorem d_MO_isRange_14 : decode b_MO_isRange 14 = .ok (.iload_n 0, 1) := by decide +kernel
theorem d_MO_isRange_15 : decode b_MO_isRange 15 = .ok (.iload_n 1, 1) := by decide +kernel
theorem d_MO_isRange_16 : decode b_MO_isRange 16 = .ok (.if_icmp .gt 18, 3) := by decide +kernel
theorem d_MO_isRange_19 : decode b_MO_isRange 19 = .ok (.iload_n 2, 1) := by decide +kernel
theorem d_MO_isRange_20 : decode b_MO_isRange 20 = .ok (.iconst 1, 1) := by decide +kernel
theorem d_MO_isRange_21 : decode b_MO_isRange 21 = .ok (.if_icmp .lt 13, 3) := by decide +kernel
theorem d_MO_isRange_24 : decode b_MO_isRange 24 = .ok (.iload_n 2, 1) := by decide +kernel
theorem d_MO_isRange_25 : decode b_MO_isRange 25 = .ok (.ldc 190, 2) := by decide +kernel
theorem d_MO_isRange_27 : decode b_MO_isRange 27 = .ok (.if_icmp .gt 7, 3) := by decide +kernel
theorem d_MO_isRange_30 : decode b_MO_isRange 30 = .ok (.iconst 1, 1) := by decide +kernel
theorem d_MO_isRange_31 : decode b_MO_isRange 31 = .ok (.goto 4, 3) := by decide +kernel
theorem d_MO_isRange_34 : decode b_MO_isRange 34 = .ok (.iconst 0, 1) := by decide +kernel
theorem d_MO_isRange_35 : decode b_MO_isRange 35 = .ok (.ireturn, 1) := by decide +kernel
theorem d_MO_fits_0 : decode b_MO_fits 0 = .ok (.iload_n 0, 1) := by decide +kernel
theorem d_MO_fits_1 : decode b_MO_fits 1 = .ok (.iload_n 1, 1) := by decide +kernel
theorem d_MO_fits_2 : decode b_MO_fits 2 = .ok (.if_icmp .lt 20, 3) := by decide +kernel
theorem d_MO_fits_5 : decode b_MO_fits 5 = .ok (.iload_n 0, 1) := by decide +kernel
theorem d_MO_fits_6 : decode b_MO_fits 6 = .ok (.iload_n 2, 1) := by decide +kernel
theorem d_MO_fits_7 : decode b_MO_fits 7 = .ok (.if_icmp .gt 15, 3) := by decide +kernel
theorem d_MO_fits_10 : decode b_MO_fits 10 = .ok (.iload_n 0, 1) := by decide +kernel
theorem d_MO_fits_11 : decode b_MO_fits 11 = .ok (.iload_n 1, 1) := by decide +kernel
theorem d_MO_fits_12 : decode b_MO_fits 12 = .ok (.isub, 1) := by decide +kernel
theorem d_MO_fits_13 : decode b_MO_fits 13 = .ok (.iload_n 3, 1) := by decide +kernel
theorem d_MO_fits_14 : decode b_MO_fits 14 = .ok (.irem, 1) := by decide +kernel
theorem d_MO_fits_15 : decode b_MO_fits 15 = .ok (.ifCond .ne 7, 3) := by decide +kernel
theorem d_MO_fits_18 : decode b_MO_fits 18 = .ok (.iconst 1, 1) := by decide +kernel
theorem d_MO_fits_19 : decode b_MO_fits 19 = .ok (.goto 4, 3) := by decide +kernel
theorem d_MO_fits_22 : decode b_MO_fits 22 = .ok (.iconst 0, 1) := by decide +kernel
theorem d_MO_fits_23 : decode b_MO_fits 23 = .ok (.ireturn, 1) := by decide +kernel
theorem d_MO_forget_0 : decode b_MO_forget 0 = .ok (.aload_n 0, 1) := by decide +kernel
theorem d_MO_forget_1 : decode b_MO_forget 1 = .ok (.getfield 25, 3) := by decide +kernel
theorem d_MO_forget_4 : decode b_MO_forget 4 = .ok (.iload_n 1, 1) := by decide +kernel
theorem d_MO_forget_5 : decode b_MO_forget 5 = .ok (.iconst 0, 1) := by decide +kernel
theorem d_MO_forget_6 : decode b_MO_forget 6 = .ok (.iastore, 1) := by decide +kernel
theorem d_MO_forget_7 : decode b_MO_forget 7 = .ok (.aload_n 0, 1) := by decide +kernel
theorem d_MO_forget_8 : decode b_MO_forget 8 = .ok (.getfield 28, 3) := by decide +kernel
theorem d_MO_forget_11 : decode b_MO_forget 11 = .ok (.iload_n 1, 1) := by decide +kernel
theorem d_MO_forget_12 : decode b_MO_forget 12 = .ok (.iconst 0, 1) := by decide +kernel
theorem d_MO_forget_13 : decode b_MO_forget 13 = .ok (.bastore, 1) := by decide +kernel
theorem d_MO_forget_14 : decode b_MO_forget 14 = .ok (.aload_n 0, 1) := by decide +kernel
theorem d_MO_forget_15 : decode b_MO_forget 15 = .ok (.getfield 47, 3) := by decide +kernel
theorem d_MO_forget_18 : decode b_MO_forget 18 = .ok (.iload_n 1, 1) := by decide +kernel
theorem d_MO_forget_19 : decode b_MO_forget 19 = .ok (.iconst (-1), 1) := by decide +kernel
theorem d_MO_forget_20 : decode b_MO_forget 20 = .ok (.iastore, 1) := by decide +kernel
theorem d_MO_forget_21 : decode b_MO_forget 21 = .ok (.aload_n 0, 1) := by decide +kernel
theorem d_MO_forget_22 : decode b_MO_forget 22 = .ok (.getfield 50, 3) := by decide +kernel
theorem d_MO_forget_25 : decode b_MO_forget 25 = .ok (.iload_n 1, 1) := by decide +kernel
theorem d_MO_forget_26 : decode b_MO_forget 26 = .ok (.ldc 180, 2) := by decide +kernel
theorem d_MO_forget_28 : decode b_MO_forget 28 = .ok (.iastore, 1) := by decide +kernel
theorem d_MO_forget_29 : decode b_MO_forget 29 = .ok (.aload_n 0, 1) := by decide +kernel
theorem d_MO_forget_30 : decode b_MO_forget 30 = .ok (.getfield 53, 3) := by decide +kernel
theorem d_MO_forget_33 : decode b_MO_forget 33 = .ok (.iload_n 1, 1) := by decide +kernel
theorem d_MO_forget_34 : decode b_MO_forget 34 = .ok (.ldc 180, 2) := by decide +kernel
theorem d_MO_forget_36 : decode b_MO_forget 36 = .ok (.iastore, 1) := by decide +kernel
theorem d_MO_forget_37 : decode b_MO_forget 37 = .ok (.iconst 4, 1) := by decide +kernel
theorem d_MO_forget_38 : decode b_MO_forget 38 = .ok (.iload_n 1, 1) := by decide +kernel
theorem d_MO_forget_39 : decode b_MO_forget 39 = .ok (.imul, 1) := by decide +kernel
theorem d_MO_forget_40 : decode b_MO_forget 40 = .ok (.istore_n 2, 1) := by decide +kernel
theorem d_MO_forget_41 : decode b_MO_forget 41 = .ok (.iload_n 2, 1) := by decide +kernel
theorem d_MO_forget_42 : decode b_MO_forget 42 = .ok (.iconst 4, 1) := by decide +kernel
theorem d_MO_forget_43 : decode b_MO_forget 43 = .ok (.iload_n 1, 1) := by decide +kernel
theorem d_MO_forget_44 : decode b_MO_forget 44 = .ok (.imul, 1) := by decide +kernel
theorem d_MO_forget_45 : decode b_MO_forget 45 = .ok (.iconst 4, 1) := by decide +kernel
theorem d_MO_forget_46 : decode b_MO_forget 46 = .ok (.iadd, 1) := by decide +kernel
theorem d_MO_forget_47 : decode b_MO_forget 47 = .ok (.if_icmp .ge 60, 3) := by decide +kernel
theorem d_MO_forget_50 : decode b_MO_forget 50 = .ok (.aload_n 0, 1) := by decide +kernel
theorem d_MO_forget_51 : decode b_MO_forget 51 = .ok (.getfield 77, 3) := by decide +kernel
theorem d_MO_forget_54 : decode b_MO_forget 54 = .ok (.iload_n 2, 1) := by decide +kernel
theorem d_MO_forget_55 : decode b_MO_forget 55 = .ok (.iconst 0, 1) := by decide +kernel
theorem d_MO_forget_56 : decode b_MO_forget 56 = .ok (.bastore, 1) := by decide +kernel
theorem d_MO_forget_57 : decode b_MO_forget 57 = .ok (.aload_n 0, 1) := by decide +kernel
theorem d_MO_forget_58 : decode b_MO_forget 58 = .ok (.getfield 80, 3) := by decide +kernel
theorem d_MO_forget_61 : decode b_MO_forget 61 = .ok (.iload_n 2, 1) := by decide +kernel
theorem d_MO_forget_62 : decode b_MO_forget 62 = .ok (.iconst 0, 1) := by decide +kernel
theorem d_MO_forget_63 : decode b_MO_forget 63 = .ok (.bastore, 1) := by decide +kernel
theorem d_MO_forget_64 : decode b_MO_forget 64 = .ok (.aload_n 0, 1) := by decide +kernel
theorem d_MO_forget_65 : decode b_MO_forget 65 = .ok (.getfield 98, 3) := by decide +kernel
theorem d_MO_forget_68 : decode b_MO_forget 68 = .ok (.iload_n 2, 1) := by decide +kernel
theorem d_MO_forget_69 : decode b_MO_forget 69 = .ok (.iconst 0, 1) := by decide +kernel
theorem d_MO_forget_70 : decode b_MO_forget 70 = .ok (.bastore, 1) := by decide +kernel
theorem d_MO_forget_71 : decode b_MO_forget 71 = .ok (.aload_n 0, 1) := by decide +kernel
theorem d_MO_forget_72 : decode b_MO_forget 72 = .ok (.getfield 101, 3) := by decide +kernel
theorem d_MO_forget_75 : decode b_MO_forget 75 = .ok (.iload_n 2, 1) := by decide +kernel
theorem d_MO_forget_76 : decode b_MO_forget 76 = .ok (.iconst 0, 1) := by decide +kernel
theorem d_MO_forget_77 : decode b_MO_forget 77 = .ok (.bastore, 1) := by decide +kernel
theorem d_MO_forget_78 : decode b_MO_forget 78 = .ok (.aload_n 0, 1) := by decide +kernel
theorem d_MO_forget_79 : decode b_MO_forget 79 = .ok (.getfield 95, 3) := by decide +kernel
theorem d_MO_forget_82 : decode b_MO_forget 82 = .ok (.iload_n 2, 1) := by decide +kernel
theorem d_MO_forget_83 : decode b_MO_forget 83 = .ok (.ldc 180, 2) := by decide +kernel
theorem d_MO_forget_85 : decode b_MO_forget 85 = .ok (.iastore, 1) := by decide +kernel
theorem d_MO_forget_86 : decode b_MO_forget 86 = .ok (.aload_n 0, 1) := by decide +kernel
theorem d_MO_forget_87 : decode b_MO_forget 87 = .ok (.getfield 92, 3) := by decide +kernel
theorem d_MO_forget_90 : decode b_MO_forget 90 = .ok (.iload_n 2, 1) := by decide +kernel
theorem d_MO_forget_91 : decode b_MO_forget 91 = .ok (.iconst (-1), 1) := by decide +kernel
theorem d_MO_forget_92 : decode b_MO_forget 92 = .ok (.iastore, 1) := by decide +kernel
theorem d_MO_forget_93 : decode b_MO_forget 93 = .ok (.aload_n 0, 1) := by decide +kernel
theorem d_MO_forget_94 : decode b_MO_forget 94 = .ok (.getfield 89, 3) := by decide +kernel
theorem d_MO_forget_97 : decode b_MO_forget 97 = .ok (.iload_n 2, 1) := by decide +kernel
theorem d_MO_forget_98 : decode b_MO_forget 98 = .ok (.ldc 180, 2) := by decide +kernel
theorem d_MO_forget_100 : decode b_MO_forget 100 = .ok (.iastore, 1) := by decide +kernel
theorem d_MO_forget_101 : decode b_MO_forget 101 = .ok (.iinc 2 1, 3) := by decide +kernel
theorem d_MO_forget_104 : decode b_MO_forget 104 = .ok (.goto (-63), 3) := by decide +kernel
theorem d_MO_forget_107 : decode b_MO_forget 107 = .ok (.return_, 1) := by decide +kernel
theorem d_MO_device_0 : decode b_MO_device 0 = .ok (.aload_n 0, 1) := by decide +kernel
theorem d_MO_device_1 : decode b_MO_device 1 = .ok (.iconst 0, 1) := by decide +kernel
theorem d_MO_device_2 : decode b_MO_device 2 = .ok (.putfield 181, 3) := by decide +kernel
theorem d_MO_device_5 : decode b_MO_device 5 = .ok (.iload_n 1, 1) := by decide +kernel
theorem d_MO_device_6 : decode b_MO_device 6 = .ok (.invokestatic 185, 3) := by decide +kernel
theorem d_MO_device_9 : decode b_MO_device 9 = .ok (.ifCond .eq 20, 3) := by decide +kernel
theorem d_MO_device_12 : decode b_MO_device 12 = .ok (.iload_n 2, 1) := by decide +kernel
theorem d_MO_device_13 : decode b_MO_device 13 = .ok (.invokestatic 194, 3) := by decide +kernel
theorem d_MO_device_16 : decode b_MO_device 16 = .ok (.ifCond .eq 13, 3) := by decide +kernel
theorem d_MO_device_19 : decode b_MO_device 19 = .ok (.aload_n 0, 1) := by decide +kernel
theorem d_MO_device_20 : decode b_MO_device 20 = .ok (.getfield 13, 3) := by decide +kernel
theorem d_MO_device_23 : decode b_MO_device 23 = .ok (.iload_n 1, 1) := by decide +kernel
theorem d_MO_device_24 : decode b_MO_device 24 = .ok (.iaload, 1) := by decide +kernel
theorem d_MO_device_25 : decode b_MO_device 25 = .ok (.iconst 2, 1) := by decide +kernel
theorem d_MO_device_26 : decode b_MO_device 26 = .ok (.if_icmp .ne 5, 3) := by decide +kernel
theorem d_MO_device_29 : decode b_MO_device 29 = .ok (.iconst 0, 1) := by decide +kernel
theorem d_MO_device_30 : decode b_MO_device 30 = .ok (.ireturn, 1) := by decide +kernel
theorem d_MO_device_31 : decode b_MO_device 31 = .ok (.aload_n 0, 1) := by decide +kernel
theorem d_MO_device_32 : decode b_MO_device 32 = .ok (.getfield 13, 3) := by decide +kernel
theorem d_MO_device_35 : decode b_MO_device 35 = .ok (.iload_n 1, 1) := by decide +kernel
theorem d_MO_device_36 : decode b_MO_device 36 = .ok (.iconst 1, 1) := by decide +kernel
theorem d_MO_device_37 : decode b_MO_device 37 = .ok (.iastore, 1) := by decide +kernel
theorem d_MO_device_38 : decode b_MO_device 38 = .ok (.aload_n 0, 1) := by decide +kernel
theorem d_MO_device_39 : decode b_MO_device 39 = .ok (.getfield 16, 3) := by decide +kernel
theorem d_MO_device_42 : decode b_MO_device 42 = .ok (.iload_n 1, 1) := by decide +kernel
theorem d_MO_device_43 : decode b_MO_device 43 = .ok (.iload_n 2, 1) := by decide +kernel
theorem d_MO_device_44 : decode b_MO_device 44 = .ok (.iastore, 1) := by decide +kernel
theorem d_MO_device_45 : decode b_MO_device 45 = .ok (.aload_n 0, 1) := by decide +kernel
theorem d_MO_device_46 : decode b_MO_device 46 = .ok (.getfield 22, 3) := by decide +kernel
theorem d_MO_device_49 : decode b_MO_device 49 = .ok (.iload_n 1, 1) := by decide +kernel
theorem d_MO_device_50 : decode b_MO_device 50 = .ok (.iconst 0, 1) := by decide +kernel
theorem d_MO_device_51 : decode b_MO_device 51 = .ok (.iastore, 1) := by decide +kernel
theorem d_MO_device_52 : decode b_MO_device 52 = .ok (.aload_n 0, 1) := by decide +kernel
theorem d_MO_device_53 : decode b_MO_device 53 = .ok (.getfield 32, 3) := by decide +kernel
theorem d_MO_device_56 : decode b_MO_device 56 = .ok (.iload_n 1, 1) := by decide +kernel
theorem d_MO_device_57 : decode b_MO_device 57 = .ok (.iconst 0, 1) := by decide +kernel
theorem d_MO_device_58 : decode b_MO_device 58 = .ok (.bastore, 1) := by decide +kernel
theorem d_MO_device_59 : decode b_MO_device 59 = .ok (.iconst 4, 1) := by decide +kernel
theorem d_MO_device_60 : decode b_MO_device 60 = .ok (.iload_n 1, 1) := by decide +kernel
theorem d_MO_device_61 : decode b_MO_device 61 = .ok (.imul, 1) := by decide +kernel
theorem d_MO_device_62 : decode b_MO_device 62 = .ok (.istore_n 3, 1) := by decide +kernel
theorem d_MO_device_63 : decode b_MO_device 63 = .ok (.iload_n 3, 1) := by decide +kernel
theorem d_MO_device_64 : decode b_MO_device 64 = .ok (.iconst 4, 1) := by decide +kernel
theorem d_MO_device_65 : decode b_MO_device 65 = .ok (.iload_n 1, 1) := by decide +kernel
theorem d_MO_device_66 : decode b_MO_device 66 = .ok (.imul, 1) := by decide +kernel
theorem d_MO_device_67 : decode b_MO_device 67 = .ok (.iconst 4, 1) := by decide +kernel
theorem d_MO_device_68 : decode b_MO_device 68 = .ok (.iadd, 1) := by decide +kernel
theorem d_MO_device_69 : decode b_MO_device 69 = .ok (.if_icmp .ge 16, 3) := by decide +kernel
theorem d_MO_device_72 : decode b_MO_device 72 = .ok (.aload_n 0, 1) := by decide +kernel
theorem d_MO_device_73 : decode b_MO_device 73 = .ok (.getfield 68, 3) := by decide +kernel
theorem d_MO_device_76 : decode b_MO_device 76 = .ok (.iload_n 3, 1) := by decide +kernel
theorem d_MO_device_77 : decode b_MO_device 77 = .ok (.iconst 0, 1) := by decide +kernel
theorem d_MO_device_78 : decode b_MO_device 78 = .ok (.iastore, 1) := by decide +kernel
theorem d_MO_device_79 : decode b_MO_device 79 = .ok (.iinc 3 1, 3) := by decide +kernel
theorem d_MO_device_82 : decode b_MO_device 82 = .ok (.goto (-19), 3) := by decide +kernel
theorem d_MO_device_85 : decode b_MO_device 85 = .ok (.iconst 1, 1) := by decide +kernel
theorem d_MO_device_86 : decode b_MO_device 86 = .ok (.ireturn, 1) := by decide +kernel
theorem d_MO_channel_0 : decode b_MO_channel 0 = .ok (.aload_n 0, 1) := by decide +kernel
theorem d_MO_channel_1 : decode b_MO_channel 1 = .ok (.iload_n 1, 1) := by decide +kernel
theorem d_MO_channel_2 : decode b_MO_channel 2 = .ok (.iconst 1, 1) := by decide +kernel
theorem d_MO_channel_3 : decode b_MO_channel 3 = .ok (.invokevirtual 197, 3) := by decide +kernel
theorem d_MO_channel_6 : decode b_MO_channel 6 = .ok (.ifCond .eq 28, 3) := by decide +kernel
theorem d_MO_channel_9 : decode b_MO_channel 9 = .ok (.iload_n 2, 1) := by decide +kernel
theorem d_MO_channel_10 : decode b_MO_channel 10 = .ok (.ifCond .lt 24, 3) := by decide +kernel
theorem d_MO_channel_13 : decode b_MO_channel 13 = .ok (.iload_n 2, 1) := by decide +kernel
theorem d_MO_channel_14 : decode b_MO_channel 14 = .ok (.bipush 16, 2) := by decide +kernel
theorem d_MO_channel_16 : decode b_MO_channel 16 = .ok (.if_icmp .ge 18, 3) := by decide +kernel
theorem d_MO_channel_19 : decode b_MO_channel 19 = .ok (.iload_n 3, 1) := by decide +kernel
theorem d_MO_channel_20 : decode b_MO_channel 20 = .ok (.iload 4, 2) := by decide +kernel
theorem d_MO_channel_22 : decode b_MO_channel 22 = .ok (.iload 5, 2) := by decide +kernel
theorem d_MO_channel_24 : decode b_MO_channel 24 = .ok (.invokestatic 201, 3) := by decide +kernel
theorem d_MO_channel_27 : decode b_MO_channel 27 = .ok (.ifCond .eq 7, 3) := by decide +kernel
theorem d_MO_channel_30 : decode b_MO_channel 30 = .ok (.iconst 1, 1) := by decide +kernel
theorem d_MO_channel_31 : decode b_MO_channel 31 = .ok (.goto 4, 3) := by decide +kernel
theorem d_MO_channel_34 : decode b_MO_channel 34 = .ok (.iconst 0, 1) := by decide +kernel
theorem d_MO_channel_35 : decode b_MO_channel 35 = .ok (.istore 6, 2) := by decide +kernel
theorem d_MO_channel_37 : decode b_MO_channel 37 = .ok (.aload_n 0, 1) := by decide +kernel
theorem d_MO_channel_38 : decode b_MO_channel 38 = .ok (.iload 6, 2) := by decide +kernel
theorem d_MO_channel_40 : decode b_MO_channel 40 = .ok (.ifCond .ne 7, 3) := by decide +kernel
theorem d_MO_channel_43 : decode b_MO_channel 43 = .ok (.iconst 1, 1) := by decide +kernel
theorem d_MO_channel_44 : decode b_MO_channel 44 = .ok (.goto 18, 3) := by decide +kernel
theorem d_MO_channel_47 : decode b_MO_channel 47 = .ok (.aload_n 0, 1) := by decide +kernel
theorem d_MO_channel_48 : decode b_MO_channel 48 = .ok (.getfield 22, 3) := by decide +kernel
theorem d_MO_channel_51 : decode b_MO_channel 51 = .ok (.iload_n 1, 1) := by decide +kernel
theorem d_MO_channel_52 : decode b_MO_channel 52 = .ok (.iaload, 1) := by decide +kernel
theorem d_MO_channel_53 : decode b_MO_channel 53 = .ok (.iconst 4, 1) := by decide +kernel
theorem d_MO_channel_54 : decode b_MO_channel 54 = .ok (.if_icmp .ne 7, 3) := by decide +kernel
theorem d_MO_channel_57 : decode b_MO_channel 57 = .ok (.iconst 2, 1) := by decide +kernel
theorem d_MO_channel_58 : decode b_MO_channel 58 = .ok (.goto 4, 3) := by decide +kernel
theorem d_MO_channel_61 : decode b_MO_channel 61 = .ok (.iconst 0, 1) := by decide +kernel
theorem d_MO_channel_62 : decode b_MO_channel 62 = .ok (.putfield 181, 3) := by decide +kernel
theorem d_MO_channel_65 : decode b_MO_channel 65 = .ok (.aload_n 0, 1) := by decide +kernel
theorem d_MO_channel_66 : decode b_MO_channel 66 = .ok (.getfield 181, 3) := by decide +kernel
theorem d_MO_channel_69 : decode b_MO_channel 69 = .ok (.ifCond .le 5, 3) := by decide +kernel
theorem d_MO_channel_72 : decode b_MO_channel 72 = .ok (.iconst 0, 1) := by decide +kernel
theorem d_MO_channel_73 : decode b_MO_channel 73 = .ok (.ireturn, 1) := by decide +kernel
theorem d_MO_channel_74 : decode b_MO_channel 74 = .ok (.iconst 4, 1) := by decide +kernel
theorem d_MO_channel_75 : decode b_MO_channel 75 = .ok (.iload_n 1, 1) := by decide +kernel
theorem d_MO_channel_76 : decode b_MO_channel 76 = .ok (.imul, 1) := by decide +kernel
theorem d_MO_channel_77 : decode b_MO_channel 77 = .ok (.aload_n 0, 1) := by decide +kernel
theorem d_MO_channel_78 : decode b_MO_channel 78 = .ok (.getfield 22, 3) := by decide +kernel
theorem d_MO_channel_81 : decode b_MO_channel 81 = .ok (.iload_n 1, 1) := by decide +kernel
theorem d_MO_channel_82 : decode b_MO_channel 82 = .ok (.iaload, 1) := by decide +kernel
theorem d_MO_channel_83 : decode b_MO_channel 83 = .ok (.iadd, 1) := by decide +kernel
theorem d_MO_channel_84 : decode b_MO_channel 84 = .ok (.istore 7, 2) := by decide +kernel
theorem d_MO_channel_86 : decode b_MO_channel 86 = .ok (.aload_n 0, 1) := by decide +kernel
theorem d_MO_channel_87 : decode b_MO_channel 87 = .ok (.getfield 56, 3) := by decide +kernel
theorem d_MO_channel_90 : decode b_MO_channel 90 = .ok (.iload 7, 2) := by decide +kernel
theorem d_MO_channel_92 : decode b_MO_channel 92 = .ok (.iload_n 2, 1) := by decide +kernel
theorem d_MO_channel_93 : decode b_MO_channel 93 = .ok (.iastore, 1) := by decide +kernel
theorem d_MO_channel_94 : decode b_MO_channel 94 = .ok (.aload_n 0, 1) := by decide +kernel
theorem d_MO_channel_95 : decode b_MO_channel 95 = .ok (.getfield 59, 3) := by decide +kernel
theorem d_MO_channel_98 : decode b_MO_channel 98 = .ok (.iload 7, 2) := by decide +kernel
theorem d_MO_channel_100 : decode b_MO_channel 100 = .ok (.iload_n 3, 1) := by decide +kernel
theorem d_MO_channel_101 : decode b_MO_channel 101 = .ok (.iastore, 1) := by decide +kernel
theorem d_MO_channel_102 : decode b_MO_channel 102 = .ok (.aload_n 0, 1) := by decide +kernel
theorem d_MO_channel_103 : decode b_MO_channel 103 = .ok (.getfield 62, 3) := by decide +kernel
theorem d_MO_channel_106 : decode b_MO_channel 106 = .ok (.iload 7, 2) := by decide +kernel
theorem d_MO_channel_108 : decode b_MO_channel 108 = .ok (.iload 4, 2) := by decide +kernel
theorem d_MO_channel_110 : decode b_MO_channel 110 = .ok (.iastore, 1) := by decide +kernel
theorem d_MO_channel_111 : decode b_MO_channel 111 = .ok (.aload_n 0, 1) := by decide +kernel
theorem d_MO_channel_112 : decode b_MO_channel 112 = .ok (.getfield 65, 3) := by decide +kernel
theorem d_MO_channel_115 : decode b_MO_channel 115 = .ok (.iload 7, 2) := by decide +kernel
theorem d_MO_channel_117 : decode b_MO_channel 117 = .ok (.iload 5, 2) := by decide +kernel
theorem d_MO_channel_119 : decode b_MO_channel 119 = .ok (.iastore, 1) := by decide +kernel
theorem d_MO_channel_120 : decode b_MO_channel 120 = .ok (.aload_n 0, 1) := by decide +kernel
theorem d_MO_channel_121 : decode b_MO_channel 121 = .ok (.getfield 22, 3) := by decide +kernel
theorem d_MO_channel_124 : decode b_MO_channel 124 = .ok (.iload_n 1, 1) := by decide +kernel
theorem d_MO_channel_125 : decode b_MO_channel 125 = .ok (.dup2, 1) := by decide +kernel
theorem d_MO_channel_126 : decode b_MO_channel 126 = .ok (.iaload, 1) := by decide +kernel
theorem d_MO_channel_127 : decode b_MO_channel 127 = .ok (.iconst 1, 1) := by decide +kernel
theorem d_MO_channel_128 : decode b_MO_channel 128 = .ok (.iadd, 1) := by decide +kernel
theorem d_MO_channel_129 : decode b_MO_channel 129 = .ok (.iastore, 1) := by decide +kernel
theorem d_MO_channel_130 : decode b_MO_channel 130 = .ok (.aload_n 0, 1) := by decide +kernel
theorem d_MO_channel_131 : decode b_MO_channel 131 = .ok (.getfield 22, 3) := by decide +kernel
theorem d_MO_channel_134 : decode b_MO_channel 134 = .ok (.iload_n 1, 1) := by decide +kernel
theorem d_MO_channel_135 : decode b_MO_channel 135 = .ok (.iaload, 1) := by decide +kernel
theorem d_MO_channel_136 : decode b_MO_channel 136 = .ok (.iconst 1, 1) := by decide +kernel
theorem d_MO_channel_137 : decode b_MO_channel 137 = .ok (.isub, 1) := by decide +kernel
theorem d_MO_channel_138 : decode b_MO_channel 138 = .ok (.ireturn, 1) := by decide +kernel
theorem d_MO_alarm_0 : decode b_MO_alarm 0 = .ok (.aload_n 0, 1) := by decide +kernel
theorem d_MO_alarm_1 : decode b_MO_alarm 1 = .ok (.iconst 0, 1) := by decide +kernel
theorem d_MO_alarm_2 : decode b_MO_alarm 2 = .ok (.putfield 181, 3) := by decide +kernel
theorem d_MO_alarm_5 : decode b_MO_alarm 5 = .ok (.aload_n 0, 1) := by decide +kernel
theorem d_MO_alarm_6 : decode b_MO_alarm 6 = .ok (.iload_n 1, 1) := by decide +kernel
theorem d_MO_alarm_7 : decode b_MO_alarm 7 = .ok (.iconst 1, 1) := by decide +kernel
theorem d_MO_alarm_8 : decode b_MO_alarm 8 = .ok (.invokevirtual 197, 3) := by decide +kernel
theorem d_MO_alarm_11 : decode b_MO_alarm 11 = .ok (.ifCond .eq 42, 3) := by decide +kernel
theorem d_MO_alarm_14 : decode b_MO_alarm 14 = .ok (.aload_n 0, 1) := by decide +kernel
theorem d_MO_alarm_15 : decode b_MO_alarm 15 = .ok (.iload_n 1, 1) := by decide +kernel
theorem d_MO_alarm_16 : decode b_MO_alarm 16 = .ok (.iload_n 2, 1) := by decide +kernel
theorem d_MO_alarm_17 : decode b_MO_alarm 17 = .ok (.invokevirtual 205, 3) := by decide +kernel
theorem d_MO_alarm_20 : decode b_MO_alarm 20 = .ok (.ifCond .eq 33, 3) := by decide +kernel
theorem d_MO_alarm_23 : decode b_MO_alarm 23 = .ok (.iload_n 3, 1) := by decide +kernel
theorem d_MO_alarm_24 : decode b_MO_alarm 24 = .ok (.iconst 1, 1) := by decide +kernel
theorem d_MO_alarm_25 : decode b_MO_alarm 25 = .ok (.if_icmp .lt 28, 3) := by decide +kernel
theorem d_MO_alarm_28 : decode b_MO_alarm 28 = .ok (.iload_n 3, 1) := by decide +kernel
theorem d_MO_alarm_29 : decode b_MO_alarm 29 = .ok (.iconst 3, 1) := by decide +kernel
theorem d_MO_alarm_30 : decode b_MO_alarm 30 = .ok (.if_icmp .gt 23, 3) := by decide +kernel
theorem d_MO_alarm_33 : decode b_MO_alarm 33 = .ok (.iload 4, 2) := by decide +kernel
theorem d_MO_alarm_35 : decode b_MO_alarm 35 = .ok (.invokestatic 191, 3) := by decide +kernel
theorem d_MO_alarm_38 : decode b_MO_alarm 38 = .ok (.ifCond .eq 15, 3) := by decide +kernel
theorem d_MO_alarm_41 : decode b_MO_alarm 41 = .ok (.iload 5, 2) := by decide +kernel
theorem d_MO_alarm_43 : decode b_MO_alarm 43 = .ok (.ifCond .lt 10, 3) := by decide +kernel
theorem d_MO_alarm_46 : decode b_MO_alarm 46 = .ok (.iload 5, 2) := by decide +kernel
theorem d_MO_alarm_48 : decode b_MO_alarm 48 = .ok (.ldc 190, 2) := by decide +kernel
theorem d_MO_alarm_50 : decode b_MO_alarm 50 = .ok (.if_icmp .le 5, 3) := by decide +kernel
theorem d_MO_alarm_53 : decode b_MO_alarm 53 = .ok (.iconst 0, 1) := by decide +kernel
theorem d_MO_alarm_54 : decode b_MO_alarm 54 = .ok (.ireturn, 1) := by decide +kernel
theorem d_MO_alarm_55 : decode b_MO_alarm 55 = .ok (.aload_n 0, 1) := by decide +kernel
theorem d_MO_alarm_56 : decode b_MO_alarm 56 = .ok (.getfield 68, 3) := by decide +kernel
theorem d_MO_alarm_59 : decode b_MO_alarm 59 = .ok (.iconst 4, 1) := by decide +kernel
theorem d_MO_alarm_60 : decode b_MO_alarm 60 = .ok (.iload_n 1, 1) := by decide +kernel
theorem d_MO_alarm_61 : decode b_MO_alarm 61 = .ok (.imul, 1) := by decide +kernel
theorem d_MO_alarm_62 : decode b_MO_alarm 62 = .ok (.iload_n 2, 1) := by decide +kernel
theorem d_MO_alarm_63 : decode b_MO_alarm 63 = .ok (.iadd, 1) := by decide +kernel
theorem d_MO_alarm_64 : decode b_MO_alarm 64 = .ok (.iload_n 3, 1) := by decide +kernel
theorem d_MO_alarm_65 : decode b_MO_alarm 65 = .ok (.iastore, 1) := by decide +kernel
theorem d_MO_alarm_66 : decode b_MO_alarm 66 = .ok (.aload_n 0, 1) := by decide +kernel
theorem d_MO_alarm_67 : decode b_MO_alarm 67 = .ok (.getfield 71, 3) := by decide +kernel
theorem d_MO_alarm_70 : decode b_MO_alarm 70 = .ok (.iconst 4, 1) := by decide +kernel
theorem d_MO_alarm_71 : decode b_MO_alarm 71 = .ok (.iload_n 1, 1) := by decide +kernel
theorem d_MO_alarm_72 : decode b_MO_alarm 72 = .ok (.imul, 1) := by decide +kernel
theorem d_MO_alarm_73 : decode b_MO_alarm 73 = .ok (.iload_n 2, 1) := by decide +kernel
theorem d_MO_alarm_74 : decode b_MO_alarm 74 = .ok (.iadd, 1) := by decide +kernel
theorem d_MO_alarm_75 : decode b_MO_alarm 75 = .ok (.iload 4, 2) := by decide +kernel
theorem d_MO_alarm_77 : decode b_MO_alarm 77 = .ok (.iastore, 1) := by decide +kernel
theorem d_MO_alarm_78 : decode b_MO_alarm 78 = .ok (.aload_n 0, 1) := by decide +kernel
theorem d_MO_alarm_79 : decode b_MO_alarm 79 = .ok (.getfield 74, 3) := by decide +kernel
theorem d_MO_alarm_82 : decode b_MO_alarm 82 = .ok (.iconst 4, 1) := by decide +kernel
theorem d_MO_alarm_83 : decode b_MO_alarm 83 = .ok (.iload_n 1, 1) := by decide +kernel
theorem d_MO_alarm_84 : decode b_MO_alarm 84 = .ok (.imul, 1) := by decide +kernel
theorem d_MO_alarm_85 : decode b_MO_alarm 85 = .ok (.iload_n 2, 1) := by decide +kernel
theorem d_MO_alarm_86 : decode b_MO_alarm 86 = .ok (.iadd, 1) := by decide +kernel
theorem d_MO_alarm_87 : decode b_MO_alarm 87 = .ok (.iload 5, 2) := by decide +kernel
theorem d_MO_alarm_89 : decode b_MO_alarm 89 = .ok (.iastore, 1) := by decide +kernel
theorem d_MO_alarm_90 : decode b_MO_alarm 90 = .ok (.iconst 1, 1) := by decide +kernel
theorem d_MO_alarm_91 : decode b_MO_alarm 91 = .ok (.ireturn, 1) := by decide +kernel
theorem d_MO_setPoint_0 : decode b_MO_setPoint 0 = .ok (.aload_n 0, 1) := by decide +kernel
theorem d_MO_setPoint_1 : decode b_MO_setPoint 1 = .ok (.iconst 0, 1) := by decide +kernel
theorem d_MO_setPoint_2 : decode b_MO_setPoint 2 = .ok (.putfield 181, 3) := by decide +kernel
theorem d_MO_setPoint_5 : decode b_MO_setPoint 5 = .ok (.aload_n 0, 1) := by decide +kernel
theorem d_MO_setPoint_6 : decode b_MO_setPoint 6 = .ok (.iload_n 1, 1) := by decide +kernel
theorem d_MO_setPoint_7 : decode b_MO_setPoint 7 = .ok (.iconst 1, 1) := by decide +kernel
theorem d_MO_setPoint_8 : decode b_MO_setPoint 8 = .ok (.invokevirtual 197, 3) := by decide +kernel
theorem d_MO_setPoint_11 : decode b_MO_setPoint 11 = .ok (.ifCond .eq 13, 3) := by decide +kernel
theorem d_MO_setPoint_14 : decode b_MO_setPoint 14 = .ok (.iload_n 2, 1) := by decide +kernel
theorem d_MO_setPoint_15 : decode b_MO_setPoint 15 = .ok (.iload_n 3, 1) := by decide +kernel
theorem d_MO_setPoint_16 : decode b_MO_setPoint 16 = .ok (.iload 4, 2) := by decide +kernel
theorem d_MO_setPoint_18 : decode b_MO_setPoint 18 = .ok (.invokestatic 201, 3) := by decide +kernel
theorem d_MO_setPoint_21 : decode b_MO_setPoint 21 = .ok (.ifCond .ne 5, 3) := by decide +kernel
theorem d_MO_setPoint_24 : decode b_MO_setPoint 24 = .ok (.iconst 0, 1) := by decide +kernel
theorem d_MO_setPoint_25 : decode b_MO_setPoint 25 = .ok (.ireturn, 1) := by decide +kernel
theorem d_MO_setPoint_26 : decode b_MO_setPoint 26 = .ok (.aload_n 0, 1) := by decide +kernel
theorem d_MO_setPoint_27 : decode b_MO_setPoint 27 = .ok (.getfield 32, 3) := by decide +kernel
theorem d_MO_setPoint_30 : decode b_MO_setPoint 30 = .ok (.iload_n 1, 1) := by decide +kernel
theorem d_MO_setPoint_31 : decode b_MO_setPoint 31 = .ok (.iconst 1, 1) := by decide +kernel
theorem d_MO_setPoint_32 : decode b_MO_setPoint 32 = .ok (.bastore, 1) := by decide +kernel
theorem d_MO_setPoint_33 : decode b_MO_setPoint 33 = .ok (.aload_n 0, 1) := by decide +kernel
theorem d_MO_setPoint_34 : decode b_MO_setPoint 34 = .ok (.getfield 35, 3) := by decide +kernel
theorem d_MO_setPoint_37 : decode b_MO_setPoint 37 = .ok (.iload_n 1, 1) := by decide +kernel
theorem d_MO_setPoint_38 : decode b_MO_setPoint 38 = .ok (.iload_n 2, 1) := by decide +kernel
theorem d_MO_setPoint_39 : decode b_MO_setPoint 39 = .ok (.iastore, 1) := by decide +kernel
theorem d_MO_setPoint_40 : decode b_MO_setPoint 40 = .ok (.aload_n 0, 1) := by decide +kernel
theorem d_MO_setPoint_41 : decode b_MO_setPoint 41 = .ok (.getfield 38, 3) := by decide +kernel
theorem d_MO_setPoint_44 : decode b_MO_setPoint 44 = .ok (.iload_n 1, 1) := by decide +kernel
theorem d_MO_setPoint_45 : decode b_MO_setPoint 45 = .ok (.iload_n 3, 1) := by decide +kernel
theorem d_MO_setPoint_46 : decode b_MO_setPoint 46 = .ok (.iastore, 1) := by decide +kernel
theorem d_MO_setPoint_47 : decode b_MO_setPoint 47 = .ok (.aload_n 0, 1) := by decide +kernel
theorem d_MO_setPoint_48 : decode b_MO_setPoint 48 = .ok (.getfield 41, 3) := by decide +kernel
theorem d_MO_setPoint_51 : decode b_MO_setPoint 51 = .ok (.iload_n 1, 1) := by decide +kernel
theorem d_MO_setPoint_52 : decode b_MO_setPoint 52 = .ok (.iload 4, 2) := by decide +kernel
theorem d_MO_setPoint_54 : decode b_MO_setPoint 54 = .ok (.iastore, 1) := by decide +kernel
theorem d_MO_setPoint_55 : decode b_MO_setPoint 55 = .ok (.aload_n 0, 1) := by decide +kernel
theorem d_MO_setPoint_56 : decode b_MO_setPoint 56 = .ok (.getfield 44, 3) := by decide +kernel
theorem d_MO_setPoint_59 : decode b_MO_setPoint 59 = .ok (.iload_n 1, 1) := by decide +kernel
theorem d_MO_setPoint_60 : decode b_MO_setPoint 60 = .ok (.iload_n 2, 1) := by decide +kernel
theorem d_MO_setPoint_61 : decode b_MO_setPoint 61 = .ok (.iastore, 1) := by decide +kernel
theorem d_MO_setPoint_62 : decode b_MO_setPoint 62 = .ok (.iconst 1, 1) := by decide +kernel
theorem d_MO_setPoint_63 : decode b_MO_setPoint 63 = .ok (.ireturn, 1) := by decide +kernel
theorem d_MO_seal_0 : decode b_MO_seal 0 = .ok (.aload_n 0, 1) := by decide +kernel
theorem d_MO_seal_1 : decode b_MO_seal 1 = .ok (.iconst 0, 1) := by decide +kernel
theorem d_MO_seal_2 : decode b_MO_seal 2 = .ok (.putfield 181, 3) := by decide +kernel
theorem d_MO_seal_5 : decode b_MO_seal 5 = .ok (.aload_n 0, 1) := by decide +kernel
theorem d_MO_seal_6 : decode b_MO_seal 6 = .ok (.iload_n 1, 1) := by decide +kernel
theorem d_MO_seal_7 : decode b_MO_seal 7 = .ok (.iconst 1, 1) := by decide +kernel
theorem d_MO_seal_8 : decode b_MO_seal 8 = .ok (.invokevirtual 197, 3) := by decide +kernel
theorem d_MO_seal_11 : decode b_MO_seal 11 = .ok (.ifCond .eq 12, 3) := by decide +kernel
theorem d_MO_seal_14 : decode b_MO_seal 14 = .ok (.aload_n 0, 1) := by decide +kernel
theorem d_MO_seal_15 : decode b_MO_seal 15 = .ok (.getfield 22, 3) := by decide +kernel
theorem d_MO_seal_18 : decode b_MO_seal 18 = .ok (.iload_n 1, 1) := by decide +kernel
theorem d_MO_seal_19 : decode b_MO_seal 19 = .ok (.iaload, 1) := by decide +kernel
theorem d_MO_seal_20 : decode b_MO_seal 20 = .ok (.ifCond .ne 5, 3) := by decide +kernel
theorem d_MO_seal_23 : decode b_MO_seal 23 = .ok (.iconst 0, 1) := by decide +kernel
theorem d_MO_seal_24 : decode b_MO_seal 24 = .ok (.ireturn, 1) := by decide +kernel
theorem d_MO_seal_25 : decode b_MO_seal 25 = .ok (.aload_n 0, 1) := by decide +kernel
theorem d_MO_seal_26 : decode b_MO_seal 26 = .ok (.getfield 13, 3) := by decide +kernel
theorem d_MO_seal_29 : decode b_MO_seal 29 = .ok (.iload_n 1, 1) := by decide +kernel
theorem d_MO_seal_30 : decode b_MO_seal 30 = .ok (.iconst 2, 1) := by decide +kernel
theorem d_MO_seal_31 : decode b_MO_seal 31 = .ok (.iastore, 1) := by decide +kernel
theorem d_MO_seal_32 : decode b_MO_seal 32 = .ok (.iconst 1, 1) := by decide +kernel
theorem d_MO_seal_33 : decode b_MO_seal 33 = .ok (.ireturn, 1) := by decide +kernel
theorem d_MO_untie_0 : decode b_MO_untie 0 = .ok (.aload_n 0, 1) := by decide +kernel
theorem d_MO_untie_1 : decode b_MO_untie 1 = .ok (.getfield 25, 3) := by decide +kernel
theorem d_MO_untie_4 : decode b_MO_untie 4 = .ok (.iload_n 1, 1) := by decide +kernel
theorem d_MO_untie_5 : decode b_MO_untie 5 = .ok (.iconst 0, 1) := by decide +kernel
theorem d_MO_untie_6 : decode b_MO_untie 6 = .ok (.iastore, 1) := by decide +kernel
theorem d_MO_untie_7 : decode b_MO_untie 7 = .ok (.iconst 4, 1) := by decide +kernel
theorem d_MO_untie_8 : decode b_MO_untie 8 = .ok (.iload_n 1, 1) := by decide +kernel
theorem d_MO_untie_9 : decode b_MO_untie 9 = .ok (.imul, 1) := by decide +kernel
theorem d_MO_untie_10 : decode b_MO_untie 10 = .ok (.istore_n 2, 1) := by decide +kernel
theorem d_MO_untie_11 : decode b_MO_untie 11 = .ok (.iload_n 2, 1) := by decide +kernel
theorem d_MO_untie_12 : decode b_MO_untie 12 = .ok (.iconst 4, 1) := by decide +kernel
theorem d_MO_untie_13 : decode b_MO_untie 13 = .ok (.iload_n 1, 1) := by decide +kernel
theorem d_MO_untie_14 : decode b_MO_untie 14 = .ok (.imul, 1) := by decide +kernel
theorem d_MO_untie_15 : decode b_MO_untie 15 = .ok (.iconst 4, 1) := by decide +kernel
theorem d_MO_untie_16 : decode b_MO_untie 16 = .ok (.iadd, 1) := by decide +kernel
theorem d_MO_untie_17 : decode b_MO_untie 17 = .ok (.if_icmp .ge 16, 3) := by decide +kernel
theorem d_MO_untie_20 : decode b_MO_untie 20 = .ok (.aload_n 0, 1) := by decide +kernel
theorem d_MO_untie_21 : decode b_MO_untie 21 = .ok (.getfield 80, 3) := by decide +kernel
theorem d_MO_untie_24 : decode b_MO_untie 24 = .ok (.iload_n 2, 1) := by decide +kernel
theorem d_MO_untie_25 : decode b_MO_untie 25 = .ok (.iconst 0, 1) := by decide +kernel
theorem d_MO_untie_26 : decode b_MO_untie 26 = .ok (.bastore, 1) := by decide +kernel
theorem d_MO_untie_27 : decode b_MO_untie 27 = .ok (.iinc 2 1, 3) := by decide +kernel
theorem d_MO_untie_30 : decode b_MO_untie 30 = .ok (.goto (-19), 3) := by decide +kernel
theorem d_MO_untie_33 : decode b_MO_untie 33 = .ok (.return_, 1) := by decide +kernel
theorem d_MO_move_0 : decode b_MO_move 0 = .ok (.aload_n 0, 1) := by decide +kernel
theorem d_MO_move_1 : decode b_MO_move 1 = .ok (.iconst 0, 1) := by decide +kernel
theorem d_MO_move_2 : decode b_MO_move 2 = .ok (.putfield 181, 3) := by decide +kernel
theorem d_MO_move_5 : decode b_MO_move 5 = .ok (.aload_n 0, 1) := by decide +kernel
theorem d_MO_move_6 : decode b_MO_move 6 = .ok (.iload_n 1, 1) := by decide +kernel
theorem d_MO_move_7 : decode b_MO_move 7 = .ok (.iconst 2, 1) := by decide +kernel
theorem d_MO_move_8 : decode b_MO_move 8 = .ok (.invokevirtual 197, 3) := by decide +kernel
theorem d_MO_move_11 : decode b_MO_move 11 = .ok (.ifCond .eq 10, 3) := by decide +kernel
theorem d_MO_move_14 : decode b_MO_move 14 = .ok (.iload_n 2, 1) := by decide +kernel
theorem d_MO_move_15 : decode b_MO_move 15 = .ok (.invokestatic 194, 3) := by decide +kernel
theorem d_MO_move_18 : decode b_MO_move 18 = .ok (.ifCond .ne 5, 3) := by decide +kernel
theorem d_MO_move_21 : decode b_MO_move 21 = .ok (.iconst 0, 1) := by decide +kernel
theorem d_MO_move_22 : decode b_MO_move 22 = .ok (.ireturn, 1) := by decide +kernel
theorem d_MO_move_23 : decode b_MO_move 23 = .ok (.aload_n 0, 1) := by decide +kernel
theorem d_MO_move_24 : decode b_MO_move 24 = .ok (.getfield 16, 3) := by decide +kernel
theorem d_MO_move_27 : decode b_MO_move 27 = .ok (.iload_n 1, 1) := by decide +kernel
theorem d_MO_move_28 : decode b_MO_move 28 = .ok (.iload_n 2, 1) := by decide +kernel
theorem d_MO_move_29 : decode b_MO_move 29 = .ok (.iastore, 1) := by decide +kernel
theorem d_MO_move_30 : decode b_MO_move 30 = .ok (.aload_n 0, 1) := by decide +kernel
theorem d_MO_move_31 : decode b_MO_move 31 = .ok (.iload_n 1, 1) := by decide +kernel
theorem d_MO_move_32 : decode b_MO_move 32 = .ok (.invokevirtual 208, 3) := by decide +kernel
theorem d_MO_move_35 : decode b_MO_move 35 = .ok (.aload_n 0, 1) := by decide +kernel
theorem d_MO_move_36 : decode b_MO_move 36 = .ok (.invokevirtual 211, 3) := by decide +kernel
theorem d_MO_move_39 : decode b_MO_move 39 = .ok (.iconst 1, 1) := by decide +kernel
theorem d_MO_move_40 : decode b_MO_move 40 = .ok (.ireturn, 1) := by decide +kernel
theorem d_MO_patient_0 : decode b_MO_patient 0 = .ok (.aload_n 0, 1) := by decide +kernel
theorem d_MO_patient_1 : decode b_MO_patient 1 = .ok (.iconst 0, 1) := by decide +kernel
theorem d_MO_patient_2 : decode b_MO_patient 2 = .ok (.putfield 181, 3) := by decide +kernel
theorem d_MO_patient_5 : decode b_MO_patient 5 = .ok (.iload_n 1, 1) := by decide +kernel
theorem d_MO_patient_6 : decode b_MO_patient 6 = .ok (.invokestatic 194, 3) := by decide +kernel
theorem d_MO_patient_9 : decode b_MO_patient 9 = .ok (.ifCond .eq 17, 3) := by decide +kernel
theorem d_MO_patient_12 : decode b_MO_patient 12 = .ok (.iload_n 2, 1) := by decide +kernel
theorem d_MO_patient_13 : decode b_MO_patient 13 = .ok (.ifCond .lt 13, 3) := by decide +kernel
theorem d_MO_patient_16 : decode b_MO_patient 16 = .ok (.aload_n 0, 1) := by decide +kernel
theorem d_MO_patient_17 : decode b_MO_patient 17 = .ok (.getfield 7, 3) := by decide +kernel
theorem d_MO_patient_20 : decode b_MO_patient 20 = .ok (.iload_n 1, 1) := by decide +kernel
theorem d_MO_patient_21 : decode b_MO_patient 21 = .ok (.iaload, 1) := by decide +kernel
theorem d_MO_patient_22 : decode b_MO_patient 22 = .ok (.iload_n 2, 1) := by decide +kernel
theorem d_MO_patient_23 : decode b_MO_patient 23 = .ok (.if_icmp .ne 5, 3) := by decide +kernel
theorem d_MO_patient_26 : decode b_MO_patient 26 = .ok (.iconst 0, 1) := by decide +kernel
theorem d_MO_patient_27 : decode b_MO_patient 27 = .ok (.ireturn, 1) := by decide +kernel
theorem d_MO_patient_28 : decode b_MO_patient 28 = .ok (.aload_n 0, 1) := by decide +kernel
theorem d_MO_patient_29 : decode b_MO_patient 29 = .ok (.getfield 7, 3) := by decide +kernel
theorem d_MO_patient_32 : decode b_MO_patient 32 = .ok (.iload_n 1, 1) := by decide +kernel
theorem d_MO_patient_33 : decode b_MO_patient 33 = .ok (.iload_n 2, 1) := by decide +kernel
theorem d_MO_patient_34 : decode b_MO_patient 34 = .ok (.iastore, 1) := by decide +kernel
theorem d_MO_patient_35 : decode b_MO_patient 35 = .ok (.iconst 0, 1) := by decide +kernel
theorem d_MO_patient_36 : decode b_MO_patient 36 = .ok (.istore_n 3, 1) := by decide +kernel
theorem d_MO_patient_37 : decode b_MO_patient 37 = .ok (.iload_n 3, 1) := by decide +kernel
theorem d_MO_patient_38 : decode b_MO_patient 38 = .ok (.bipush 8, 2) := by decide +kernel
theorem d_MO_patient_40 : decode b_MO_patient 40 = .ok (.if_icmp .ge 24, 3) := by decide +kernel
theorem d_MO_patient_43 : decode b_MO_patient 43 = .ok (.aload_n 0, 1) := by decide +kernel
theorem d_MO_patient_44 : decode b_MO_patient 44 = .ok (.getfield 16, 3) := by decide +kernel
theorem d_MO_patient_47 : decode b_MO_patient 47 = .ok (.iload_n 3, 1) := by decide +kernel
theorem d_MO_patient_48 : decode b_MO_patient 48 = .ok (.iaload, 1) := by decide +kernel
theorem d_MO_patient_49 : decode b_MO_patient 49 = .ok (.iload_n 1, 1) := by decide +kernel
theorem d_MO_patient_50 : decode b_MO_patient 50 = .ok (.if_icmp .ne 8, 3) := by decide +kernel
theorem d_MO_patient_53 : decode b_MO_patient 53 = .ok (.aload_n 0, 1) := by decide +kernel
theorem d_MO_patient_54 : decode b_MO_patient 54 = .ok (.iload_n 3, 1) := by decide +kernel
theorem d_MO_patient_55 : decode b_MO_patient 55 = .ok (.invokevirtual 208, 3) := by decide +kernel
theorem d_MO_patient_58 : decode b_MO_patient 58 = .ok (.iinc 3 1, 3) := by decide +kernel
theorem d_MO_patient_61 : decode b_MO_patient 61 = .ok (.goto (-24), 3) := by decide +kernel
theorem d_MO_patient_64 : decode b_MO_patient 64 = .ok (.aload_n 0, 1) := by decide +kernel
theorem d_MO_patient_65 : decode b_MO_patient 65 = .ok (.invokevirtual 211, 3) := by decide +kernel
theorem d_MO_patient_68 : decode b_MO_patient 68 = .ok (.iconst 1, 1) := by decide +kernel
theorem d_MO_patient_69 : decode b_MO_patient 69 = .ok (.ireturn, 1) := by decide +kernel
theorem d_MO_confirm_0 : decode b_MO_confirm 0 = .ok (.aload_n 0, 1) := by decide +kernel
theorem d_MO_confirm_1 : decode b_MO_confirm 1 = .ok (.iconst 0, 1) := by decide +kernel
theorem d_MO_confirm_2 : decode b_MO_confirm 2 = .ok (.putfield 181, 3) := by decide +kernel
theorem d_MO_confirm_5 : decode b_MO_confirm 5 = .ok (.aload_n 0, 1) := by decide +kernel
theorem d_MO_confirm_6 : decode b_MO_confirm 6 = .ok (.iload_n 1, 1) := by decide +kernel
theorem d_MO_confirm_7 : decode b_MO_confirm 7 = .ok (.iconst 2, 1) := by decide +kernel
theorem d_MO_confirm_8 : decode b_MO_confirm 8 = .ok (.invokevirtual 197, 3) := by decide +kernel
theorem d_MO_confirm_11 : decode b_MO_confirm 11 = .ok (.ifCond .eq 26, 3) := by decide +kernel
theorem d_MO_confirm_14 : decode b_MO_confirm 14 = .ok (.aload_n 0, 1) := by decide +kernel
theorem d_MO_confirm_15 : decode b_MO_confirm 15 = .ok (.getfield 25, 3) := by decide +kernel
theorem d_MO_confirm_18 : decode b_MO_confirm 18 = .ok (.iload_n 1, 1) := by decide +kernel
theorem d_MO_confirm_19 : decode b_MO_confirm 19 = .ok (.iaload, 1) := by decide +kernel
theorem d_MO_confirm_20 : decode b_MO_confirm 20 = .ok (.ifCond .ne 17, 3) := by decide +kernel
theorem d_MO_confirm_23 : decode b_MO_confirm 23 = .ok (.aload_n 0, 1) := by decide +kernel
theorem d_MO_confirm_24 : decode b_MO_confirm 24 = .ok (.getfield 7, 3) := by decide +kernel
theorem d_MO_confirm_27 : decode b_MO_confirm 27 = .ok (.aload_n 0, 1) := by decide +kernel
theorem d_MO_confirm_28 : decode b_MO_confirm 28 = .ok (.getfield 16, 3) := by decide +kernel
theorem d_MO_confirm_31 : decode b_MO_confirm 31 = .ok (.iload_n 1, 1) := by decide +kernel
theorem d_MO_confirm_32 : decode b_MO_confirm 32 = .ok (.iaload, 1) := by decide +kernel
theorem d_MO_confirm_33 : decode b_MO_confirm 33 = .ok (.iaload, 1) := by decide +kernel
theorem d_MO_confirm_34 : decode b_MO_confirm 34 = .ok (.ifCond .ne 5, 3) := by decide +kernel
theorem d_MO_confirm_37 : decode b_MO_confirm 37 = .ok (.iconst 0, 1) := by decide +kernel
theorem d_MO_confirm_38 : decode b_MO_confirm 38 = .ok (.ireturn, 1) := by decide +kernel
theorem d_MO_confirm_39 : decode b_MO_confirm 39 = .ok (.aload_n 0, 1) := by decide +kernel
theorem d_MO_confirm_40 : decode b_MO_confirm 40 = .ok (.getfield 25, 3) := by decide +kernel
theorem d_MO_confirm_43 : decode b_MO_confirm 43 = .ok (.iload_n 1, 1) := by decide +kernel
theorem d_MO_confirm_44 : decode b_MO_confirm 44 = .ok (.aload_n 0, 1) := by decide +kernel
theorem d_MO_confirm_45 : decode b_MO_confirm 45 = .ok (.getfield 7, 3) := by decide +kernel
theorem d_MO_confirm_48 : decode b_MO_confirm 48 = .ok (.aload_n 0, 1) := by decide +kernel
theorem d_MO_confirm_49 : decode b_MO_confirm 49 = .ok (.getfield 16, 3) := by decide +kernel
theorem d_MO_confirm_52 : decode b_MO_confirm 52 = .ok (.iload_n 1, 1) := by decide +kernel
theorem d_MO_confirm_53 : decode b_MO_confirm 53 = .ok (.iaload, 1) := by decide +kernel
theorem d_MO_confirm_54 : decode b_MO_confirm 54 = .ok (.iaload, 1) := by decide +kernel
theorem d_MO_confirm_55 : decode b_MO_confirm 55 = .ok (.iastore, 1) := by decide +kernel
theorem d_MO_confirm_56 : decode b_MO_confirm 56 = .ok (.aload_n 0, 1) := by decide +kernel
theorem d_MO_confirm_57 : decode b_MO_confirm 57 = .ok (.invokevirtual 211, 3) := by decide +kernel
theorem d_MO_confirm_60 : decode b_MO_confirm 60 = .ok (.iconst 1, 1) := by decide +kernel
theorem d_MO_confirm_61 : decode b_MO_confirm 61 = .ok (.ireturn, 1) := by decide +kernel
theorem d_MO_send_0 : decode b_MO_send 0 = .ok (.aload_n 0, 1) := by decide +kernel
theorem d_MO_send_1 : decode b_MO_send 1 = .ok (.getfield 214, 3) := by decide +kernel
theorem d_MO_send_4 : decode b_MO_send 4 = .ok (.bipush 64, 2) := by decide +kernel
theorem d_MO_send_6 : decode b_MO_send 6 = .ok (.if_icmp .ge 111, 3) := by decide +kernel
theorem d_MO_send_9 : decode b_MO_send 9 = .ok (.aload_n 0, 1) := by decide +kernel
theorem d_MO_send_10 : decode b_MO_send 10 = .ok (.getfield 116, 3) := by decide +kernel
theorem d_MO_send_13 : decode b_MO_send 13 = .ok (.aload_n 0, 1) := by decide +kernel
theorem d_MO_send_14 : decode b_MO_send 14 = .ok (.getfield 214, 3) := by decide +kernel
theorem d_MO_send_17 : decode b_MO_send 17 = .ok (.aload_n 0, 1) := by decide +kernel
theorem d_MO_send_18 : decode b_MO_send 18 = .ok (.getfield 217, 3) := by decide +kernel
theorem d_MO_send_21 : decode b_MO_send 21 = .ok (.iastore, 1) := by decide +kernel
theorem d_MO_send_22 : decode b_MO_send 22 = .ok (.aload_n 0, 1) := by decide +kernel
theorem d_MO_send_23 : decode b_MO_send 23 = .ok (.getfield 119, 3) := by decide +kernel
theorem d_MO_send_26 : decode b_MO_send 26 = .ok (.aload_n 0, 1) := by decide +kernel
theorem d_MO_send_27 : decode b_MO_send 27 = .ok (.getfield 214, 3) := by decide +kernel
theorem d_MO_send_30 : decode b_MO_send 30 = .ok (.iload_n 1, 1) := by decide +kernel
theorem d_MO_send_31 : decode b_MO_send 31 = .ok (.iastore, 1) := by decide +kernel
theorem d_MO_send_32 : decode b_MO_send 32 = .ok (.aload_n 0, 1) := by decide +kernel
theorem d_MO_send_33 : decode b_MO_send 33 = .ok (.getfield 122, 3) := by decide +kernel
theorem d_MO_send_36 : decode b_MO_send 36 = .ok (.aload_n 0, 1) := by decide +kernel
theorem d_MO_send_37 : decode b_MO_send 37 = .ok (.getfield 214, 3) := by decide +kernel
theorem d_MO_send_40 : decode b_MO_send 40 = .ok (.iload_n 2, 1) := by decide +kernel
theorem d_MO_send_41 : decode b_MO_send 41 = .ok (.iastore, 1) := by decide +kernel
theorem d_MO_send_42 : decode b_MO_send 42 = .ok (.aload_n 0, 1) := by decide +kernel
theorem d_MO_send_43 : decode b_MO_send 43 = .ok (.getfield 125, 3) := by decide +kernel
theorem d_MO_send_46 : decode b_MO_send 46 = .ok (.aload_n 0, 1) := by decide +kernel
theorem d_MO_send_47 : decode b_MO_send 47 = .ok (.getfield 214, 3) := by decide +kernel
theorem d_MO_send_50 : decode b_MO_send 50 = .ok (.iload_n 3, 1) := by decide +kernel
theorem d_MO_send_51 : decode b_MO_send 51 = .ok (.iastore, 1) := by decide +kernel
theorem d_MO_send_52 : decode b_MO_send 52 = .ok (.aload_n 0, 1) := by decide +kernel
theorem d_MO_send_53 : decode b_MO_send 53 = .ok (.getfield 128, 3) := by decide +kernel
theorem d_MO_send_56 : decode b_MO_send 56 = .ok (.aload_n 0, 1) := by decide +kernel
theorem d_MO_send_57 : decode b_MO_send 57 = .ok (.getfield 214, 3) := by decide +kernel
theorem d_MO_send_60 : decode b_MO_send 60 = .ok (.aload_n 0, 1) := by decide +kernel
theorem d_MO_send_61 : decode b_MO_send 61 = .ok (.getfield 19, 3) := by decide +kernel
theorem d_MO_send_64 : decode b_MO_send 64 = .ok (.iload_n 2, 1) := by decide +kernel
theorem d_MO_send_65 : decode b_MO_send 65 = .ok (.iaload, 1) := by decide +kernel
theorem d_MO_send_66 : decode b_MO_send 66 = .ok (.iastore, 1) := by decide +kernel
theorem d_MO_send_67 : decode b_MO_send 67 = .ok (.aload_n 0, 1) := by decide +kernel
theorem d_MO_send_68 : decode b_MO_send 68 = .ok (.getfield 131, 3) := by decide +kernel
theorem d_MO_send_71 : decode b_MO_send 71 = .ok (.aload_n 0, 1) := by decide +kernel
theorem d_MO_send_72 : decode b_MO_send 72 = .ok (.getfield 214, 3) := by decide +kernel
theorem d_MO_send_75 : decode b_MO_send 75 = .ok (.iload 4, 2) := by decide +kernel
theorem d_MO_send_77 : decode b_MO_send 77 = .ok (.iastore, 1) := by decide +kernel
theorem d_MO_send_78 : decode b_MO_send 78 = .ok (.aload_n 0, 1) := by decide +kernel
theorem d_MO_send_79 : decode b_MO_send 79 = .ok (.getfield 134, 3) := by decide +kernel
theorem d_MO_send_82 : decode b_MO_send 82 = .ok (.aload_n 0, 1) := by decide +kernel
theorem d_MO_send_83 : decode b_MO_send 83 = .ok (.getfield 214, 3) := by decide +kernel
theorem d_MO_send_86 : decode b_MO_send 86 = .ok (.iload 5, 2) := by decide +kernel
theorem d_MO_send_88 : decode b_MO_send 88 = .ok (.iastore, 1) := by decide +kernel
theorem d_MO_send_89 : decode b_MO_send 89 = .ok (.aload_n 0, 1) := by decide +kernel
theorem d_MO_send_90 : decode b_MO_send 90 = .ok (.getfield 137, 3) := by decide +kernel
theorem d_MO_send_93 : decode b_MO_send 93 = .ok (.aload_n 0, 1) := by decide +kernel
theorem d_MO_send_94 : decode b_MO_send 94 = .ok (.getfield 214, 3) := by decide +kernel
theorem d_MO_send_97 : decode b_MO_send 97 = .ok (.aload_n 0, 1) := by decide +kernel
theorem d_MO_send_98 : decode b_MO_send 98 = .ok (.getfield 25, 3) := by decide +kernel
theorem d_MO_send_101 : decode b_MO_send 101 = .ok (.iload_n 2, 1) := by decide +kernel
theorem d_MO_send_102 : decode b_MO_send 102 = .ok (.iaload, 1) := by decide +kernel
theorem d_MO_send_103 : decode b_MO_send 103 = .ok (.iastore, 1) := by decide +kernel
theorem d_MO_send_104 : decode b_MO_send 104 = .ok (.aload_n 0, 1) := by decide +kernel
theorem d_MO_send_105 : decode b_MO_send 105 = .ok (.dup, 1) := by decide +kernel
theorem d_MO_send_106 : decode b_MO_send 106 = .ok (.getfield 214, 3) := by decide +kernel
theorem d_MO_send_109 : decode b_MO_send 109 = .ok (.iconst 1, 1) := by decide +kernel
theorem d_MO_send_110 : decode b_MO_send 110 = .ok (.iadd, 1) := by decide +kernel
theorem d_MO_send_111 : decode b_MO_send 111 = .ok (.putfield 214, 3) := by decide +kernel
theorem d_MO_send_114 : decode b_MO_send 114 = .ok (.goto 13, 3) := by decide +kernel
theorem d_MO_send_117 : decode b_MO_send 117 = .ok (.aload_n 0, 1) := by decide +kernel
theorem d_MO_send_118 : decode b_MO_send 118 = .ok (.dup, 1) := by decide +kernel
theorem d_MO_send_119 : decode b_MO_send 119 = .ok (.getfield 220, 3) := by decide +kernel
theorem d_MO_send_122 : decode b_MO_send 122 = .ok (.iconst 1, 1) := by decide +kernel
theorem d_MO_send_123 : decode b_MO_send 123 = .ok (.iadd, 1) := by decide +kernel
theorem d_MO_send_124 : decode b_MO_send 124 = .ok (.putfield 220, 3) := by decide +kernel
theorem d_MO_send_127 : decode b_MO_send 127 = .ok (.aload_n 0, 1) := by decide +kernel
theorem d_MO_send_128 : decode b_MO_send 128 = .ok (.dup, 1) := by decide +kernel
theorem d_MO_send_129 : decode b_MO_send 129 = .ok (.getfield 217, 3) := by decide +kernel
theorem d_MO_send_132 : decode b_MO_send 132 = .ok (.iconst 1, 1) := by decide +kernel
theorem d_MO_send_133 : decode b_MO_send 133 = .ok (.iadd, 1) := by decide +kernel
theorem d_MO_send_134 : decode b_MO_send 134 = .ok (.putfield 217, 3) := by decide +kernel
theorem d_MO_send_137 : decode b_MO_send 137 = .ok (.return_, 1) := by decide +kernel
theorem d_MO_sendValue_0 : decode b_MO_sendValue 0 = .ok (.iconst 4, 1) := by decide +kernel
theorem d_MO_sendValue_1 : decode b_MO_sendValue 1 = .ok (.iload_n 1, 1) := by decide +kernel
theorem d_MO_sendValue_2 : decode b_MO_sendValue 2 = .ok (.imul, 1) := by decide +kernel
theorem d_MO_sendValue_3 : decode b_MO_sendValue 3 = .ok (.iload_n 2, 1) := by decide +kernel
theorem d_MO_sendValue_4 : decode b_MO_sendValue 4 = .ok (.iadd, 1) := by decide +kernel
theorem d_MO_sendValue_5 : decode b_MO_sendValue 5 = .ok (.istore_n 3, 1) := by decide +kernel
theorem d_MO_sendValue_6 : decode b_MO_sendValue 6 = .ok (.aload_n 0, 1) := by decide +kernel
theorem d_MO_sendValue_7 : decode b_MO_sendValue 7 = .ok (.getfield 89, 3) := by decide +kernel
theorem d_MO_sendValue_10 : decode b_MO_sendValue 10 = .ok (.iload_n 3, 1) := by decide +kernel
theorem d_MO_sendValue_11 : decode b_MO_sendValue 11 = .ok (.aload_n 0, 1) := by decide +kernel
theorem d_MO_sendValue_12 : decode b_MO_sendValue 12 = .ok (.getfield 223, 3) := by decide +kernel
theorem d_MO_sendValue_15 : decode b_MO_sendValue 15 = .ok (.iastore, 1) := by decide +kernel
theorem d_MO_sendValue_16 : decode b_MO_sendValue 16 = .ok (.aload_n 0, 1) := by decide +kernel
theorem d_MO_sendValue_17 : decode b_MO_sendValue 17 = .ok (.iconst 1, 1) := by decide +kernel
theorem d_MO_sendValue_18 : decode b_MO_sendValue 18 = .ok (.iload_n 1, 1) := by decide +kernel
theorem d_MO_sendValue_19 : decode b_MO_sendValue 19 = .ok (.iload_n 2, 1) := by decide +kernel
theorem d_MO_sendValue_20 : decode b_MO_sendValue 20 = .ok (.aload_n 0, 1) := by decide +kernel
theorem d_MO_sendValue_21 : decode b_MO_sendValue 21 = .ok (.getfield 83, 3) := by decide +kernel
theorem d_MO_sendValue_24 : decode b_MO_sendValue 24 = .ok (.iload_n 3, 1) := by decide +kernel
theorem d_MO_sendValue_25 : decode b_MO_sendValue 25 = .ok (.iaload, 1) := by decide +kernel
theorem d_MO_sendValue_26 : decode b_MO_sendValue 26 = .ok (.aload_n 0, 1) := by decide +kernel
theorem d_MO_sendValue_27 : decode b_MO_sendValue 27 = .ok (.getfield 86, 3) := by decide +kernel
theorem d_MO_sendValue_30 : decode b_MO_sendValue 30 = .ok (.iload_n 3, 1) := by decide +kernel
theorem d_MO_sendValue_31 : decode b_MO_sendValue 31 = .ok (.iaload, 1) := by decide +kernel
theorem d_MO_sendValue_32 : decode b_MO_sendValue 32 = .ok (.invokevirtual 226, 3) := by decide +kernel
theorem d_MO_sendValue_35 : decode b_MO_sendValue 35 = .ok (.return_, 1) := by decide +kernel
theorem d_MO_sendSounds_0 : decode b_MO_sendSounds 0 = .ok (.aload_n 0, 1) := by decide +kernel
theorem d_MO_sendSounds_1 : decode b_MO_sendSounds 1 = .ok (.getfield 113, 3) := by decide +kernel
theorem d_MO_sendSounds_4 : decode b_MO_sendSounds 4 = .ok (.iload_n 1, 1) := by decide +kernel
theorem d_MO_sendSounds_5 : decode b_MO_sendSounds 5 = .ok (.aload_n 0, 1) := by decide +kernel
theorem d_MO_sendSounds_6 : decode b_MO_sendSounds 6 = .ok (.getfield 223, 3) := by decide +kernel
theorem d_MO_sendSounds_9 : decode b_MO_sendSounds 9 = .ok (.iastore, 1) := by decide +kernel
theorem d_MO_sendSounds_10 : decode b_MO_sendSounds 10 = .ok (.aload_n 0, 1) := by decide +kernel
theorem d_MO_sendSounds_11 : decode b_MO_sendSounds 11 = .ok (.iconst 3, 1) := by decide +kernel
theorem d_MO_sendSounds_12 : decode b_MO_sendSounds 12 = .ok (.iload_n 1, 1) := by decide +kernel
theorem d_MO_sendSounds_13 : decode b_MO_sendSounds 13 = .ok (.iconst 0, 1) := by decide +kernel
theorem d_MO_sendSounds_14 : decode b_MO_sendSounds 14 = .ok (.iconst 0, 1) := by decide +kernel
theorem d_MO_sendSounds_15 : decode b_MO_sendSounds 15 = .ok (.iconst 0, 1) := by decide +kernel
theorem d_MO_sendSounds_16 : decode b_MO_sendSounds 16 = .ok (.invokevirtual 226, 3) := by decide +kernel
theorem d_MO_sendSounds_19 : decode b_MO_sendSounds 19 = .ok (.return_, 1) := by decide +kernel
theorem d_MO_find_0 : decode b_MO_find 0 = .ok (.iconst (-1), 1) := by decide +kernel
theorem d_MO_find_1 : decode b_MO_find 1 = .ok (.istore_n 2, 1) := by decide +kernel
theorem d_MO_find_2 : decode b_MO_find 2 = .ok (.iconst 0, 1) := by decide +kernel
theorem d_MO_find_3 : decode b_MO_find 3 = .ok (.istore_n 3, 1) := by decide +kernel
theorem d_MO_find_4 : decode b_MO_find 4 = .ok (.iload_n 3, 1) := by decide +kernel
theorem d_MO_find_5 : decode b_MO_find 5 = .ok (.aload_n 0, 1) := by decide +kernel
theorem d_MO_find_6 : decode b_MO_find 6 = .ok (.getfield 214, 3) := by decide +kernel
theorem d_MO_find_9 : decode b_MO_find 9 = .ok (.if_icmp .ge 25, 3) := by decide +kernel
theorem d_MO_find_12 : decode b_MO_find 12 = .ok (.aload_n 0, 1) := by decide +kernel
theorem d_MO_find_13 : decode b_MO_find 13 = .ok (.getfield 116, 3) := by decide +kernel
theorem d_MO_find_16 : decode b_MO_find 16 = .ok (.iload_n 3, 1) := by decide +kernel
theorem d_MO_find_17 : decode b_MO_find 17 = .ok (.iaload, 1) := by decide +kernel
theorem d_MO_find_18 : decode b_MO_find 18 = .ok (.iload_n 1, 1) := by decide +kernel
theorem d_MO_find_19 : decode b_MO_find 19 = .ok (.if_icmp .ne 7, 3) := by decide +kernel
theorem d_MO_find_22 : decode b_MO_find 22 = .ok (.iload_n 3, 1) := by decide +kernel
theorem d_MO_find_23 : decode b_MO_find 23 = .ok (.goto 4, 3) := by decide +kernel
theorem d_MO_find_26 : decode b_MO_find 26 = .ok (.iload_n 2, 1) := by decide +kernel
theorem d_MO_find_27 : decode b_MO_find 27 = .ok (.istore_n 2, 1) := by decide +kernel
theorem d_MO_find_28 : decode b_MO_find 28 = .ok (.iinc 3 1, 3) := by decide +kernel
theorem d_MO_find_31 : decode b_MO_find 31 = .ok (.goto (-27), 3) := by decide +kernel
theorem d_MO_find_34 : decode b_MO_find 34 = .ok (.iload_n 2, 1) := by decide +kernel
theorem d_MO_find_35 : decode b_MO_find 35 = .ok (.ireturn, 1) := by decide +kernel
theorem d_MO_take_0 : decode b_MO_take 0 = .ok (.aload_n 0, 1) := by decide +kernel
theorem d_MO_take_1 : decode b_MO_take 1 = .ok (.dup, 1) := by decide +kernel
theorem d_MO_take_2 : decode b_MO_take 2 = .ok (.getfield 214, 3) := by decide +kernel
theorem d_MO_take_5 : decode b_MO_take 5 = .ok (.iconst 1, 1) := by decide +kernel
theorem d_MO_take_6 : decode b_MO_take 6 = .ok (.isub, 1) := by decide +kernel
theorem d_MO_take_7 : decode b_MO_take 7 = .ok (.putfield 214, 3) := by decide +kernel
theorem d_MO_take_10 : decode b_MO_take 10 = .ok (.iload_n 1, 1) := by decide +kernel
theorem d_MO_take_11 : decode b_MO_take 11 = .ok (.istore_n 2, 1) := by decide +kernel
theorem d_MO_take_12 : decode b_MO_take 12 = .ok (.iload_n 2, 1) := by decide +kernel
theorem d_MO_take_13 : decode b_MO_take 13 = .ok (.aload_n 0, 1) := by decide +kernel
theorem d_MO_take_14 : decode b_MO_take 14 = .ok (.getfield 214, 3) := by decide +kernel
theorem d_MO_take_17 : decode b_MO_take 17 = .ok (.if_icmp .ge 121, 3) := by decide +kernel
theorem d_MO_take_20 : decode b_MO_take 20 = .ok (.aload_n 0, 1) := by decide +kernel
theorem d_MO_take_21 : decode b_MO_take 21 = .ok (.getfield 116, 3) := by decide +kernel
theorem d_MO_take_24 : decode b_MO_take 24 = .ok (.iload_n 2, 1) := by decide +kernel
theorem d_MO_take_25 : decode b_MO_take 25 = .ok (.aload_n 0, 1) := by decide +kernel
theorem d_MO_take_26 : decode b_MO_take 26 = .ok (.getfield 116, 3) := by decide +kernel
theorem d_MO_take_29 : decode b_MO_take 29 = .ok (.iload_n 2, 1) := by decide +kernel
theorem d_MO_take_30 : decode b_MO_take 30 = .ok (.iconst 1, 1) := by decide +kernel
theorem d_MO_take_31 : decode b_MO_take 31 = .ok (.iadd, 1) := by decide +kernel
theorem d_MO_take_32 : decode b_MO_take 32 = .ok (.iaload, 1) := by decide +kernel
theorem d_MO_take_33 : decode b_MO_take 33 = .ok (.iastore, 1) := by decide +kernel
theorem d_MO_take_34 : decode b_MO_take 34 = .ok (.aload_n 0, 1) := by decide +kernel
theorem d_MO_take_35 : decode b_MO_take 35 = .ok (.getfield 119, 3) := by decide +kernel
theorem d_MO_take_38 : decode b_MO_take 38 = .ok (.iload_n 2, 1) := by decide +kernel
theorem d_MO_take_39 : decode b_MO_take 39 = .ok (.aload_n 0, 1) := by decide +kernel
theorem d_MO_take_40 : decode b_MO_take 40 = .ok (.getfield 119, 3) := by decide +kernel
theorem d_MO_take_43 : decode b_MO_take 43 = .ok (.iload_n 2, 1) := by decide +kernel
theorem d_MO_take_44 : decode b_MO_take 44 = .ok (.iconst 1, 1) := by decide +kernel
theorem d_MO_take_45 : decode b_MO_take 45 = .ok (.iadd, 1) := by decide +kernel
theorem d_MO_take_46 : decode b_MO_take 46 = .ok (.iaload, 1) := by decide +kernel
theorem d_MO_take_47 : decode b_MO_take 47 = .ok (.iastore, 1) := by decide +kernel
theorem d_MO_take_48 : decode b_MO_take 48 = .ok (.aload_n 0, 1) := by decide +kernel
theorem d_MO_take_49 : decode b_MO_take 49 = .ok (.getfield 122, 3) := by decide +kernel
theorem d_MO_take_52 : decode b_MO_take 52 = .ok (.iload_n 2, 1) := by decide +kernel
theorem d_MO_take_53 : decode b_MO_take 53 = .ok (.aload_n 0, 1) := by decide +kernel
theorem d_MO_take_54 : decode b_MO_take 54 = .ok (.getfield 122, 3) := by decide +kernel
theorem d_MO_take_57 : decode b_MO_take 57 = .ok (.iload_n 2, 1) := by decide +kernel
theorem d_MO_take_58 : decode b_MO_take 58 = .ok (.iconst 1, 1) := by decide +kernel
theorem d_MO_take_59 : decode b_MO_take 59 = .ok (.iadd, 1) := by decide +kernel
theorem d_MO_take_60 : decode b_MO_take 60 = .ok (.iaload, 1) := by decide +kernel
theorem d_MO_take_61 : decode b_MO_take 61 = .ok (.iastore, 1) := by decide +kernel
theorem d_MO_take_62 : decode b_MO_take 62 = .ok (.aload_n 0, 1) := by decide +kernel
theorem d_MO_take_63 : decode b_MO_take 63 = .ok (.getfield 125, 3) := by decide +kernel
theorem d_MO_take_66 : decode b_MO_take 66 = .ok (.iload_n 2, 1) := by decide +kernel
theorem d_MO_take_67 : decode b_MO_take 67 = .ok (.aload_n 0, 1) := by decide +kernel
theorem d_MO_take_68 : decode b_MO_take 68 = .ok (.getfield 125, 3) := by decide +kernel
theorem d_MO_take_71 : decode b_MO_take 71 = .ok (.iload_n 2, 1) := by decide +kernel
theorem d_MO_take_72 : decode b_MO_take 72 = .ok (.iconst 1, 1) := by decide +kernel
theorem d_MO_take_73 : decode b_MO_take 73 = .ok (.iadd, 1) := by decide +kernel
theorem d_MO_take_74 : decode b_MO_take 74 = .ok (.iaload, 1) := by decide +kernel
theorem d_MO_take_75 : decode b_MO_take 75 = .ok (.iastore, 1) := by decide +kernel
theorem d_MO_take_76 : decode b_MO_take 76 = .ok (.aload_n 0, 1) := by decide +kernel
theorem d_MO_take_77 : decode b_MO_take 77 = .ok (.getfield 128, 3) := by decide +kernel
theorem d_MO_take_80 : decode b_MO_take 80 = .ok (.iload_n 2, 1) := by decide +kernel
theorem d_MO_take_81 : decode b_MO_take 81 = .ok (.aload_n 0, 1) := by decide +kernel
theorem d_MO_take_82 : decode b_MO_take 82 = .ok (.getfield 128, 3) := by decide +kernel
theorem d_MO_take_85 : decode b_MO_take 85 = .ok (.iload_n 2, 1) := by decide +kernel
theorem d_MO_take_86 : decode b_MO_take 86 = .ok (.iconst 1, 1) := by decide +kernel
theorem d_MO_take_87 : decode b_MO_take 87 = .ok (.iadd, 1) := by decide +kernel
theorem d_MO_take_88 : decode b_MO_take 88 = .ok (.iaload, 1) := by decide +kernel
theorem d_MO_take_89 : decode b_MO_take 89 = .ok (.iastore, 1) := by decide +kernel
theorem d_MO_take_90 : decode b_MO_take 90 = .ok (.aload_n 0, 1) := by decide +kernel
theorem d_MO_take_91 : decode b_MO_take 91 = .ok (.getfield 131, 3) := by decide +kernel
theorem d_MO_take_94 : decode b_MO_take 94 = .ok (.iload_n 2, 1) := by decide +kernel
theorem d_MO_take_95 : decode b_MO_take 95 = .ok (.aload_n 0, 1) := by decide +kernel
theorem d_MO_take_96 : decode b_MO_take 96 = .ok (.getfield 131, 3) := by decide +kernel
theorem d_MO_take_99 : decode b_MO_take 99 = .ok (.iload_n 2, 1) := by decide +kernel
theorem d_MO_take_100 : decode b_MO_take 100 = .ok (.iconst 1, 1) := by decide +kernel
theorem d_MO_take_101 : decode b_MO_take 101 = .ok (.iadd, 1) := by decide +kernel
theorem d_MO_take_102 : decode b_MO_take 102 = .ok (.iaload, 1) := by decide +kernel
theorem d_MO_take_103 : decode b_MO_take 103 = .ok (.iastore, 1) := by decide +kernel
theorem d_MO_take_104 : decode b_MO_take 104 = .ok (.aload_n 0, 1) := by decide +kernel
theorem d_MO_take_105 : decode b_MO_take 105 = .ok (.getfield 134, 3) := by decide +kernel
theorem d_MO_take_108 : decode b_MO_take 108 = .ok (.iload_n 2, 1) := by decide +kernel
theorem d_MO_take_109 : decode b_MO_take 109 = .ok (.aload_n 0, 1) := by decide +kernel
theorem d_MO_take_110 : decode b_MO_take 110 = .ok (.getfield 134, 3) := by decide +kernel
theorem d_MO_take_113 : decode b_MO_take 113 = .ok (.iload_n 2, 1) := by decide +kernel
theorem d_MO_take_114 : decode b_MO_take 114 = .ok (.iconst 1, 1) := by decide +kernel
theorem d_MO_take_115 : decode b_MO_take 115 = .ok (.iadd, 1) := by decide +kernel
theorem d_MO_take_116 : decode b_MO_take 116 = .ok (.iaload, 1) := by decide +kernel
theorem d_MO_take_117 : decode b_MO_take 117 = .ok (.iastore, 1) := by decide +kernel
theorem d_MO_take_118 : decode b_MO_take 118 = .ok (.aload_n 0, 1) := by decide +kernel
theorem d_MO_take_119 : decode b_MO_take 119 = .ok (.getfield 137, 3) := by decide +kernel
theorem d_MO_take_122 : decode b_MO_take 122 = .ok (.iload_n 2, 1) := by decide +kernel
theorem d_MO_take_123 : decode b_MO_take 123 = .ok (.aload_n 0, 1) := by decide +kernel
theorem d_MO_take_124 : decode b_MO_take 124 = .ok (.getfield 137, 3) := by decide +kernel
theorem d_MO_take_127 : decode b_MO_take 127 = .ok (.iload_n 2, 1) := by decide +kernel
theorem d_MO_take_128 : decode b_MO_take 128 = .ok (.iconst 1, 1) := by decide +kernel
theorem d_MO_take_129 : decode b_MO_take 129 = .ok (.iadd, 1) := by decide +kernel
theorem d_MO_take_130 : decode b_MO_take 130 = .ok (.iaload, 1) := by decide +kernel
theorem d_MO_take_131 : decode b_MO_take 131 = .ok (.iastore, 1) := by decide +kernel
theorem d_MO_take_132 : decode b_MO_take 132 = .ok (.iinc 2 1, 3) := by decide +kernel
theorem d_MO_take_135 : decode b_MO_take 135 = .ok (.goto (-123), 3) := by decide +kernel
theorem d_MO_take_138 : decode b_MO_take 138 = .ok (.return_, 1) := by decide +kernel
theorem d_MO_isAbove_0 : decode b_MO_isAbove 0 = .ok (.aload_n 0, 1) := by decide +kernel
theorem d_MO_isAbove_1 : decode b_MO_isAbove 1 = .ok (.getfield 77, 3) := by decide +kernel
theorem d_MO_isAbove_4 : decode b_MO_isAbove 4 = .ok (.iload_n 1, 1) := by decide +kernel
theorem d_MO_isAbove_5 : decode b_MO_isAbove 5 = .ok (.baload, 1) := by decide +kernel
theorem d_MO_isAbove_6 : decode b_MO_isAbove 6 = .ok (.ifCond .eq 22, 3) := by decide +kernel
theorem d_MO_isAbove_9 : decode b_MO_isAbove 9 = .ok (.aload_n 0, 1) := by decide +kernel
theorem d_MO_isAbove_10 : decode b_MO_isAbove 10 = .ok (.getfield 83, 3) := by decide +kernel
theorem d_MO_isAbove_13 : decode b_MO_isAbove 13 = .ok (.iload_n 1, 1) := by decide +kernel
theorem d_MO_isAbove_14 : decode b_MO_isAbove 14 = .ok (.iaload, 1) := by decide +kernel
theorem d_MO_isAbove_15 : decode b_MO_isAbove 15 = .ok (.aload_n 0, 1) := by decide +kernel
theorem d_MO_isAbove_16 : decode b_MO_isAbove 16 = .ok (.getfield 71, 3) := by decide +kernel
theorem d_MO_isAbove_19 : decode b_MO_isAbove 19 = .ok (.iload_n 1, 1) := by decide +kernel
theorem d_MO_isAbove_20 : decode b_MO_isAbove 20 = .ok (.iaload, 1) := by decide +kernel
theorem d_MO_isAbove_21 : decode b_MO_isAbove 21 = .ok (.if_icmp .le 7, 3) := by decide +kernel
theorem d_MO_isAbove_24 : decode b_MO_isAbove 24 = .ok (.iconst 1, 1) := by decide +kernel
theorem d_MO_isAbove_25 : decode b_MO_isAbove 25 = .ok (.goto 4, 3) := by decide +kernel
theorem d_MO_isAbove_28 : decode b_MO_isAbove 28 = .ok (.iconst 0, 1) := by decide +kernel
theorem d_MO_isAbove_29 : decode b_MO_isAbove 29 = .ok (.ireturn, 1) := by decide +kernel
theorem d_MO_isSo_0 : decode b_MO_isSo 0 = .ok (.aload_n 0, 1) := by decide +kernel
theorem d_MO_isSo_1 : decode b_MO_isSo 1 = .ok (.getfield 68, 3) := by decide +kernel
theorem d_MO_isSo_4 : decode b_MO_isSo 4 = .ok (.iload_n 1, 1) := by decide +kernel
theorem d_MO_isSo_5 : decode b_MO_isSo 5 = .ok (.iaload, 1) := by decide +kernel
theorem d_MO_isSo_6 : decode b_MO_isSo 6 = .ok (.ifCond .le 28, 3) := by decide +kernel
theorem d_MO_isSo_9 : decode b_MO_isSo 9 = .ok (.aload_n 0, 1) := by decide +kernel
theorem d_MO_isSo_10 : decode b_MO_isSo 10 = .ok (.iload_n 1, 1) := by decide +kernel
theorem d_MO_isSo_11 : decode b_MO_isSo 11 = .ok (.invokevirtual 230, 3) := by decide +kernel
theorem d_MO_isSo_14 : decode b_MO_isSo 14 = .ok (.ifCond .eq 20, 3) := by decide +kernel
theorem d_MO_isSo_17 : decode b_MO_isSo 17 = .ok (.aload_n 0, 1) := by decide +kernel
theorem d_MO_isSo_18 : decode b_MO_isSo 18 = .ok (.getfield 223, 3) := by decide +kernel
theorem d_MO_isSo_21 : decode b_MO_isSo 21 = .ok (.aload_n 0, 1) := by decide +kernel
theorem d_MO_isSo_22 : decode b_MO_isSo 22 = .ok (.getfield 95, 3) := by decide +kernel
theorem d_MO_isSo_25 : decode b_MO_isSo 25 = .ok (.iload_n 1, 1) := by decide +kernel
theorem d_MO_isSo_26 : decode b_MO_isSo 26 = .ok (.iaload, 1) := by decide +kernel
theorem d_MO_isSo_27 : decode b_MO_isSo 27 = .ok (.if_icmp .lt 7, 3) := by decide +kernel
theorem d_MO_isSo_30 : decode b_MO_isSo 30 = .ok (.iconst 1, 1) := by decide +kernel
theorem d_MO_isSo_31 : decode b_MO_isSo 31 = .ok (.goto 4, 3) := by decide +kernel
theorem d_MO_isSo_34 : decode b_MO_isSo 34 = .ok (.iconst 0, 1) := by decide +kernel
theorem d_MO_isSo_35 : decode b_MO_isSo 35 = .ok (.ireturn, 1) := by decide +kernel
theorem d_MO_since_0 : decode b_MO_since 0 = .ok (.aload_n 0, 1) := by decide +kernel
theorem d_MO_since_1 : decode b_MO_since 1 = .ok (.getfield 92, 3) := by decide +kernel
theorem d_MO_since_4 : decode b_MO_since 4 = .ok (.iload_n 1, 1) := by decide +kernel
theorem d_MO_since_5 : decode b_MO_since 5 = .ok (.iaload, 1) := by decide +kernel
theorem d_MO_since_6 : decode b_MO_since 6 = .ok (.aload_n 0, 1) := by decide +kernel
theorem d_MO_since_7 : decode b_MO_since 7 = .ok (.getfield 95, 3) := by decide +kernel
theorem d_MO_since_10 : decode b_MO_since 10 = .ok (.iload_n 1, 1) := by decide +kernel
theorem d_MO_since_11 : decode b_MO_since 11 = .ok (.iaload, 1) := by decide +kernel
theorem d_MO_since_12 : decode b_MO_since 12 = .ok (.if_icmp .le 12, 3) := by decide +kernel
theorem d_MO_since_15 : decode b_MO_since 15 = .ok (.aload_n 0, 1) := by decide +kernel
theorem d_MO_since_16 : decode b_MO_since 16 = .ok (.getfield 92, 3) := by decide +kernel
theorem d_MO_since_19 : decode b_MO_since 19 = .ok (.iload_n 1, 1) := by decide +kernel
theorem d_MO_since_20 : decode b_MO_since 20 = .ok (.iaload, 1) := by decide +kernel
theorem d_MO_since_21 : decode b_MO_since 21 = .ok (.goto 9, 3) := by decide +kernel
theorem d_MO_since_24 : decode b_MO_since 24 = .ok (.aload_n 0, 1) := by decide +kernel
theorem d_MO_since_25 : decode b_MO_since 25 = .ok (.getfield 95, 3) := by decide +kernel
theorem d_MO_since_28 : decode b_MO_since 28 = .ok (.iload_n 1, 1) := by decide +kernel
theorem d_MO_since_29 : decode b_MO_since 29 = .ok (.iaload, 1) := by decide +kernel
theorem d_MO_since_30 : decode b_MO_since 30 = .ok (.ireturn, 1) := by decide +kernel
theorem d_MO_settle_0 : decode b_MO_settle 0 = .ok (.iconst 0, 1) := by decide +kernel
theorem d_MO_settle_1 : decode b_MO_settle 1 = .ok (.istore_n 1, 1) := by decide +kernel
theorem d_MO_settle_2 : decode b_MO_settle 2 = .ok (.iload_n 1, 1) := by decide +kernel
theorem d_MO_settle_3 : decode b_MO_settle 3 = .ok (.bipush 8, 2) := by decide +kernel
theorem d_MO_settle_5 : decode b_MO_settle 5 = .ok (.if_icmp .ge 174, 3) := by decide +kernel
theorem d_MO_settle_8 : decode b_MO_settle 8 = .ok (.iconst 0, 1) := by decide +kernel
theorem d_MO_settle_9 : decode b_MO_settle 9 = .ok (.istore_n 2, 1) := by decide +kernel
theorem d_MO_settle_10 : decode b_MO_settle 10 = .ok (.iload_n 2, 1) := by decide +kernel
theorem d_MO_settle_11 : decode b_MO_settle 11 = .ok (.aload_n 0, 1) := by decide +kernel
theorem d_MO_settle_12 : decode b_MO_settle 12 = .ok (.getfield 22, 3) := by decide +kernel
theorem d_MO_settle_15 : decode b_MO_settle 15 = .ok (.iload_n 1, 1) := by decide +kernel
theorem d_MO_settle_16 : decode b_MO_settle 16 = .ok (.iaload, 1) := by decide +kernel
theorem d_MO_settle_17 : decode b_MO_settle 17 = .ok (.if_icmp .ge 156, 3) := by decide +kernel
theorem d_MO_settle_20 : decode b_MO_settle 20 = .ok (.aload_n 0, 1) := by decide +kernel
theorem d_MO_settle_21 : decode b_MO_settle 21 = .ok (.getfield 13, 3) := by decide +kernel
theorem d_MO_settle_24 : decode b_MO_settle 24 = .ok (.iload_n 1, 1) := by decide +kernel
theorem d_MO_settle_25 : decode b_MO_settle 25 = .ok (.iaload, 1) := by decide +kernel
theorem d_MO_settle_26 : decode b_MO_settle 26 = .ok (.iconst 2, 1) := by decide +kernel
theorem d_MO_settle_27 : decode b_MO_settle 27 = .ok (.if_icmp .ne 146, 3) := by decide +kernel
theorem d_MO_settle_30 : decode b_MO_settle 30 = .ok (.iconst 4, 1) := by decide +kernel
theorem d_MO_settle_31 : decode b_MO_settle 31 = .ok (.iload_n 1, 1) := by decide +kernel
theorem d_MO_settle_32 : decode b_MO_settle 32 = .ok (.imul, 1) := by decide +kernel
theorem d_MO_settle_33 : decode b_MO_settle 33 = .ok (.iload_n 2, 1) := by decide +kernel
theorem d_MO_settle_34 : decode b_MO_settle 34 = .ok (.iadd, 1) := by decide +kernel
theorem d_MO_settle_35 : decode b_MO_settle 35 = .ok (.istore_n 3, 1) := by decide +kernel
theorem d_MO_settle_36 : decode b_MO_settle 36 = .ok (.aload_n 0, 1) := by decide +kernel
theorem d_MO_settle_37 : decode b_MO_settle 37 = .ok (.getfield 98, 3) := by decide +kernel
theorem d_MO_settle_40 : decode b_MO_settle 40 = .ok (.iload_n 3, 1) := by decide +kernel
theorem d_MO_settle_41 : decode b_MO_settle 41 = .ok (.baload, 1) := by decide +kernel
theorem d_MO_settle_42 : decode b_MO_settle 42 = .ok (.ifCond .ne 66, 3) := by decide +kernel
theorem d_MO_settle_45 : decode b_MO_settle 45 = .ok (.aload_n 0, 1) := by decide +kernel
theorem d_MO_settle_46 : decode b_MO_settle 46 = .ok (.iload_n 3, 1) := by decide +kernel
theorem d_MO_settle_47 : decode b_MO_settle 47 = .ok (.invokevirtual 233, 3) := by decide +kernel
theorem d_MO_settle_50 : decode b_MO_settle 50 = .ok (.ifCond .eq 58, 3) := by decide +kernel
theorem d_MO_settle_53 : decode b_MO_settle 53 = .ok (.aload_n 0, 1) := by decide +kernel
theorem d_MO_settle_54 : decode b_MO_settle 54 = .ok (.getfield 223, 3) := by decide +kernel
theorem d_MO_settle_57 : decode b_MO_settle 57 = .ok (.aload_n 0, 1) := by decide +kernel
theorem d_MO_settle_58 : decode b_MO_settle 58 = .ok (.iload_n 3, 1) := by decide +kernel
theorem d_MO_settle_59 : decode b_MO_settle 59 = .ok (.invokevirtual 236, 3) := by decide +kernel
theorem d_MO_settle_62 : decode b_MO_settle 62 = .ok (.isub, 1) := by decide +kernel
theorem d_MO_settle_63 : decode b_MO_settle 63 = .ok (.aload_n 0, 1) := by decide +kernel
theorem d_MO_settle_64 : decode b_MO_settle 64 = .ok (.getfield 74, 3) := by decide +kernel
theorem d_MO_settle_67 : decode b_MO_settle 67 = .ok (.iload_n 3, 1) := by decide +kernel
theorem d_MO_settle_68 : decode b_MO_settle 68 = .ok (.iaload, 1) := by decide +kernel
theorem d_MO_settle_69 : decode b_MO_settle 69 = .ok (.if_icmp .lt 39, 3) := by decide +kernel
theorem d_MO_settle_72 : decode b_MO_settle 72 = .ok (.aload_n 0, 1) := by decide +kernel
theorem d_MO_settle_73 : decode b_MO_settle 73 = .ok (.getfield 98, 3) := by decide +kernel
theorem d_MO_settle_76 : decode b_MO_settle 76 = .ok (.iload_n 3, 1) := by decide +kernel
theorem d_MO_settle_77 : decode b_MO_settle 77 = .ok (.iconst 1, 1) := by decide +kernel
theorem d_MO_settle_78 : decode b_MO_settle 78 = .ok (.bastore, 1) := by decide +kernel
theorem d_MO_settle_79 : decode b_MO_settle 79 = .ok (.aload_n 0, 1) := by decide +kernel
theorem d_MO_settle_80 : decode b_MO_settle 80 = .ok (.getfield 101, 3) := by decide +kernel
theorem d_MO_settle_83 : decode b_MO_settle 83 = .ok (.iload_n 3, 1) := by decide +kernel
theorem d_MO_settle_84 : decode b_MO_settle 84 = .ok (.iconst 0, 1) := by decide +kernel
theorem d_MO_settle_85 : decode b_MO_settle 85 = .ok (.bastore, 1) := by decide +kernel
theorem d_MO_settle_86 : decode b_MO_settle 86 = .ok (.aload_n 0, 1) := by decide +kernel
theorem d_MO_settle_87 : decode b_MO_settle 87 = .ok (.getfield 104, 3) := by decide +kernel
theorem d_MO_settle_90 : decode b_MO_settle 90 = .ok (.iload_n 3, 1) := by decide +kernel
theorem d_MO_settle_91 : decode b_MO_settle 91 = .ok (.aload_n 0, 1) := by decide +kernel
theorem d_MO_settle_92 : decode b_MO_settle 92 = .ok (.getfield 223, 3) := by decide +kernel
theorem d_MO_settle_95 : decode b_MO_settle 95 = .ok (.iastore, 1) := by decide +kernel
theorem d_MO_settle_96 : decode b_MO_settle 96 = .ok (.aload_n 0, 1) := by decide +kernel
theorem d_MO_settle_97 : decode b_MO_settle 97 = .ok (.iconst 2, 1) := by decide +kernel
theorem d_MO_settle_98 : decode b_MO_settle 98 = .ok (.iload_n 1, 1) := by decide +kernel
theorem d_MO_settle_99 : decode b_MO_settle 99 = .ok (.iload_n 2, 1) := by decide +kernel
theorem d_MO_settle_100 : decode b_MO_settle 100 = .ok (.iconst 1, 1) := by decide +kernel
theorem d_MO_settle_101 : decode b_MO_settle 101 = .ok (.iconst 0, 1) := by decide +kernel
theorem d_MO_settle_102 : decode b_MO_settle 102 = .ok (.invokevirtual 226, 3) := by decide +kernel
theorem d_MO_settle_105 : decode b_MO_settle 105 = .ok (.goto 62, 3) := by decide +kernel
theorem d_MO_settle_108 : decode b_MO_settle 108 = .ok (.aload_n 0, 1) := by decide +kernel
theorem d_MO_settle_109 : decode b_MO_settle 109 = .ok (.getfield 98, 3) := by decide +kernel
theorem d_MO_settle_112 : decode b_MO_settle 112 = .ok (.iload_n 3, 1) := by decide +kernel
theorem d_MO_settle_113 : decode b_MO_settle 113 = .ok (.baload, 1) := by decide +kernel
theorem d_MO_settle_114 : decode b_MO_settle 114 = .ok (.ifCond .eq 53, 3) := by decide +kernel
theorem d_MO_settle_117 : decode b_MO_settle 117 = .ok (.aload_n 0, 1) := by decide +kernel
theorem d_MO_settle_118 : decode b_MO_settle 118 = .ok (.iload_n 3, 1) := by decide +kernel
theorem d_MO_settle_119 : decode b_MO_settle 119 = .ok (.invokevirtual 233, 3) := by decide +kernel
theorem d_MO_settle_122 : decode b_MO_settle 122 = .ok (.ifCond .ne 45, 3) := by decide +kernel
theorem d_MO_settle_125 : decode b_MO_settle 125 = .ok (.aload_n 0, 1) := by decide +kernel
theorem d_MO_settle_126 : decode b_MO_settle 126 = .ok (.getfield 68, 3) := by decide +kernel
theorem d_MO_settle_129 : decode b_MO_settle 129 = .ok (.iload_n 3, 1) := by decide +kernel
theorem d_MO_settle_130 : decode b_MO_settle 130 = .ok (.iaload, 1) := by decide +kernel
theorem d_MO_settle_131 : decode b_MO_settle 131 = .ok (.iconst 1, 1) := by decide +kernel
theorem d_MO_settle_132 : decode b_MO_settle 132 = .ok (.if_icmp .gt 12, 3) := by decide +kernel
theorem d_MO_settle_135 : decode b_MO_settle 135 = .ok (.aload_n 0, 1) := by decide +kernel
theorem d_MO_settle_136 : decode b_MO_settle 136 = .ok (.getfield 101, 3) := by decide +kernel
theorem d_MO_settle_139 : decode b_MO_settle 139 = .ok (.iload_n 3, 1) := by decide +kernel
theorem d_MO_settle_140 : decode b_MO_settle 140 = .ok (.baload, 1) := by decide +kernel
theorem d_MO_settle_141 : decode b_MO_settle 141 = .ok (.ifCond .eq 26, 3) := by decide +kernel
theorem d_MO_settle_144 : decode b_MO_settle 144 = .ok (.aload_n 0, 1) := by decide +kernel
theorem d_MO_settle_145 : decode b_MO_settle 145 = .ok (.getfield 98, 3) := by decide +kernel
theorem d_MO_settle_148 : decode b_MO_settle 148 = .ok (.iload_n 3, 1) := by decide +kernel
theorem d_MO_settle_149 : decode b_MO_settle 149 = .ok (.iconst 0, 1) := by decide +kernel
theorem d_MO_settle_150 : decode b_MO_settle 150 = .ok (.bastore, 1) := by decide +kernel
theorem d_MO_settle_151 : decode b_MO_settle 151 = .ok (.aload_n 0, 1) := by decide +kernel
theorem d_MO_settle_152 : decode b_MO_settle 152 = .ok (.getfield 101, 3) := by decide +kernel
theorem d_MO_settle_155 : decode b_MO_settle 155 = .ok (.iload_n 3, 1) := by decide +kernel
theorem d_MO_settle_156 : decode b_MO_settle 156 = .ok (.iconst 0, 1) := by decide +kernel
theorem d_MO_settle_157 : decode b_MO_settle 157 = .ok (.bastore, 1) := by decide +kernel
theorem d_MO_settle_158 : decode b_MO_settle 158 = .ok (.aload_n 0, 1) := by decide +kernel
theorem d_MO_settle_159 : decode b_MO_settle 159 = .ok (.iconst 2, 1) := by decide +kernel
theorem d_MO_settle_160 : decode b_MO_settle 160 = .ok (.iload_n 1, 1) := by decide +kernel
theorem d_MO_settle_161 : decode b_MO_settle 161 = .ok (.iload_n 2, 1) := by decide +kernel
theorem d_MO_settle_162 : decode b_MO_settle 162 = .ok (.iconst 0, 1) := by decide +kernel
theorem d_MO_settle_163 : decode b_MO_settle 163 = .ok (.iconst 0, 1) := by decide +kernel
theorem d_MO_settle_164 : decode b_MO_settle 164 = .ok (.invokevirtual 226, 3) := by decide +kernel
theorem d_MO_settle_167 : decode b_MO_settle 167 = .ok (.iinc 2 1, 3) := by decide +kernel
theorem d_MO_settle_170 : decode b_MO_settle 170 = .ok (.goto (-160), 3) := by decide +kernel
theorem d_MO_settle_173 : decode b_MO_settle 173 = .ok (.iinc 1 1, 3) := by decide +kernel
theorem d_MO_settle_176 : decode b_MO_settle 176 = .ok (.goto (-174), 3) := by decide +kernel
theorem d_MO_settle_179 : decode b_MO_settle 179 = .ok (.return_, 1) := by decide +kernel
theorem d_MO_sample_0 : decode b_MO_sample 0 = .ok (.aload_n 0, 1) := by decide +kernel
theorem d_MO_sample_1 : decode b_MO_sample 1 = .ok (.iconst 0, 1) := by decide +kernel
theorem d_MO_sample_2 : decode b_MO_sample 2 = .ok (.putfield 181, 3) := by decide +kernel
theorem d_MO_sample_5 : decode b_MO_sample 5 = .ok (.aload_n 0, 1) := by decide +kernel
theorem d_MO_sample_6 : decode b_MO_sample 6 = .ok (.iload_n 1, 1) := by decide +kernel
theorem d_MO_sample_7 : decode b_MO_sample 7 = .ok (.iconst 2, 1) := by decide +kernel
theorem d_MO_sample_8 : decode b_MO_sample 8 = .ok (.invokevirtual 197, 3) := by decide +kernel
theorem d_MO_sample_11 : decode b_MO_sample 11 = .ok (.ifCond .eq 21, 3) := by decide +kernel
theorem d_MO_sample_14 : decode b_MO_sample 14 = .ok (.aload_n 0, 1) := by decide +kernel
theorem d_MO_sample_15 : decode b_MO_sample 15 = .ok (.getfield 25, 3) := by decide +kernel
theorem d_MO_sample_18 : decode b_MO_sample 18 = .ok (.iload_n 1, 1) := by decide +kernel
theorem d_MO_sample_19 : decode b_MO_sample 19 = .ok (.iaload, 1) := by decide +kernel
theorem d_MO_sample_20 : decode b_MO_sample 20 = .ok (.ifCond .eq 12, 3) := by decide +kernel
theorem d_MO_sample_23 : decode b_MO_sample 23 = .ok (.aload_n 0, 1) := by decide +kernel
theorem d_MO_sample_24 : decode b_MO_sample 24 = .ok (.iload_n 1, 1) := by decide +kernel
theorem d_MO_sample_25 : decode b_MO_sample 25 = .ok (.iload_n 2, 1) := by decide +kernel
theorem d_MO_sample_26 : decode b_MO_sample 26 = .ok (.invokevirtual 205, 3) := by decide +kernel
theorem d_MO_sample_29 : decode b_MO_sample 29 = .ok (.ifCond .ne 5, 3) := by decide +kernel
theorem d_MO_sample_32 : decode b_MO_sample 32 = .ok (.iconst 0, 1) := by decide +kernel
theorem d_MO_sample_33 : decode b_MO_sample 33 = .ok (.ireturn, 1) := by decide +kernel
theorem d_MO_sample_34 : decode b_MO_sample 34 = .ok (.iconst 4, 1) := by decide +kernel
theorem d_MO_sample_35 : decode b_MO_sample 35 = .ok (.iload_n 1, 1) := by decide +kernel
theorem d_MO_sample_36 : decode b_MO_sample 36 = .ok (.imul, 1) := by decide +kernel
theorem d_MO_sample_37 : decode b_MO_sample 37 = .ok (.iload_n 2, 1) := by decide +kernel
theorem d_MO_sample_38 : decode b_MO_sample 38 = .ok (.iadd, 1) := by decide +kernel
theorem d_MO_sample_39 : decode b_MO_sample 39 = .ok (.istore 4, 2) := by decide +kernel
theorem d_MO_sample_41 : decode b_MO_sample 41 = .ok (.iload_n 3, 1) := by decide +kernel
theorem d_MO_sample_42 : decode b_MO_sample 42 = .ok (.aload_n 0, 1) := by decide +kernel
theorem d_MO_sample_43 : decode b_MO_sample 43 = .ok (.getfield 59, 3) := by decide +kernel
theorem d_MO_sample_46 : decode b_MO_sample 46 = .ok (.iload 4, 2) := by decide +kernel
theorem d_MO_sample_48 : decode b_MO_sample 48 = .ok (.iaload, 1) := by decide +kernel
theorem d_MO_sample_49 : decode b_MO_sample 49 = .ok (.aload_n 0, 1) := by decide +kernel
theorem d_MO_sample_50 : decode b_MO_sample 50 = .ok (.getfield 62, 3) := by decide +kernel
theorem d_MO_sample_53 : decode b_MO_sample 53 = .ok (.iload 4, 2) := by decide +kernel
theorem d_MO_sample_55 : decode b_MO_sample 55 = .ok (.iaload, 1) := by decide +kernel
theorem d_MO_sample_56 : decode b_MO_sample 56 = .ok (.aload_n 0, 1) := by decide +kernel
theorem d_MO_sample_57 : decode b_MO_sample 57 = .ok (.getfield 65, 3) := by decide +kernel
theorem d_MO_sample_60 : decode b_MO_sample 60 = .ok (.iload 4, 2) := by decide +kernel
theorem d_MO_sample_62 : decode b_MO_sample 62 = .ok (.iaload, 1) := by decide +kernel
theorem d_MO_sample_63 : decode b_MO_sample 63 = .ok (.invokestatic 240, 3) := by decide +kernel
theorem d_MO_sample_66 : decode b_MO_sample 66 = .ok (.ifCond .ne 5, 3) := by decide +kernel
theorem d_MO_sample_69 : decode b_MO_sample 69 = .ok (.iconst 0, 1) := by decide +kernel
theorem d_MO_sample_70 : decode b_MO_sample 70 = .ok (.ireturn, 1) := by decide +kernel
theorem d_MO_sample_71 : decode b_MO_sample 71 = .ok (.aload_n 0, 1) := by decide +kernel
theorem d_MO_sample_72 : decode b_MO_sample 72 = .ok (.iload 4, 2) := by decide +kernel
theorem d_MO_sample_74 : decode b_MO_sample 74 = .ok (.invokevirtual 230, 3) := by decide +kernel
theorem d_MO_sample_77 : decode b_MO_sample 77 = .ok (.istore 5, 2) := by decide +kernel
theorem d_MO_sample_79 : decode b_MO_sample 79 = .ok (.aload_n 0, 1) := by decide +kernel
theorem d_MO_sample_80 : decode b_MO_sample 80 = .ok (.getfield 77, 3) := by decide +kernel
theorem d_MO_sample_83 : decode b_MO_sample 83 = .ok (.iload 4, 2) := by decide +kernel
theorem d_MO_sample_85 : decode b_MO_sample 85 = .ok (.iconst 1, 1) := by decide +kernel
theorem d_MO_sample_86 : decode b_MO_sample 86 = .ok (.bastore, 1) := by decide +kernel
theorem d_MO_sample_87 : decode b_MO_sample 87 = .ok (.aload_n 0, 1) := by decide +kernel
theorem d_MO_sample_88 : decode b_MO_sample 88 = .ok (.getfield 80, 3) := by decide +kernel
theorem d_MO_sample_91 : decode b_MO_sample 91 = .ok (.iload 4, 2) := by decide +kernel
theorem d_MO_sample_93 : decode b_MO_sample 93 = .ok (.iconst 1, 1) := by decide +kernel
theorem d_MO_sample_94 : decode b_MO_sample 94 = .ok (.bastore, 1) := by decide +kernel
theorem d_MO_sample_95 : decode b_MO_sample 95 = .ok (.aload_n 0, 1) := by decide +kernel
theorem d_MO_sample_96 : decode b_MO_sample 96 = .ok (.getfield 83, 3) := by decide +kernel
theorem d_MO_sample_99 : decode b_MO_sample 99 = .ok (.iload 4, 2) := by decide +kernel
theorem d_MO_sample_101 : decode b_MO_sample 101 = .ok (.iload_n 3, 1) := by decide +kernel
theorem d_MO_sample_102 : decode b_MO_sample 102 = .ok (.iastore, 1) := by decide +kernel
theorem d_MO_sample_103 : decode b_MO_sample 103 = .ok (.aload_n 0, 1) := by decide +kernel
theorem d_MO_sample_104 : decode b_MO_sample 104 = .ok (.getfield 86, 3) := by decide +kernel
theorem d_MO_sample_107 : decode b_MO_sample 107 = .ok (.iload 4, 2) := by decide +kernel
theorem d_MO_sample_109 : decode b_MO_sample 109 = .ok (.aload_n 0, 1) := by decide +kernel
theorem d_MO_sample_110 : decode b_MO_sample 110 = .ok (.getfield 223, 3) := by decide +kernel
theorem d_MO_sample_113 : decode b_MO_sample 113 = .ok (.iastore, 1) := by decide +kernel
theorem d_MO_sample_114 : decode b_MO_sample 114 = .ok (.aload_n 0, 1) := by decide +kernel
theorem d_MO_sample_115 : decode b_MO_sample 115 = .ok (.getfield 92, 3) := by decide +kernel
theorem d_MO_sample_118 : decode b_MO_sample 118 = .ok (.iload 4, 2) := by decide +kernel
theorem d_MO_sample_120 : decode b_MO_sample 120 = .ok (.iload 5, 2) := by decide +kernel
theorem d_MO_sample_122 : decode b_MO_sample 122 = .ok (.ifCond .eq 13, 3) := by decide +kernel
theorem d_MO_sample_125 : decode b_MO_sample 125 = .ok (.aload_n 0, 1) := by decide +kernel
theorem d_MO_sample_126 : decode b_MO_sample 126 = .ok (.getfield 92, 3) := by decide +kernel
theorem d_MO_sample_129 : decode b_MO_sample 129 = .ok (.iload 4, 2) := by decide +kernel
theorem d_MO_sample_131 : decode b_MO_sample 131 = .ok (.iaload, 1) := by decide +kernel
theorem d_MO_sample_132 : decode b_MO_sample 132 = .ok (.goto 7, 3) := by decide +kernel
theorem d_MO_sample_135 : decode b_MO_sample 135 = .ok (.aload_n 0, 1) := by decide +kernel
theorem d_MO_sample_136 : decode b_MO_sample 136 = .ok (.getfield 223, 3) := by decide +kernel
theorem d_MO_sample_139 : decode b_MO_sample 139 = .ok (.iastore, 1) := by decide +kernel
theorem d_MO_sample_140 : decode b_MO_sample 140 = .ok (.aload_n 0, 1) := by decide +kernel
theorem d_MO_sample_141 : decode b_MO_sample 141 = .ok (.iload_n 1, 1) := by decide +kernel
theorem d_MO_sample_142 : decode b_MO_sample 142 = .ok (.iload_n 2, 1) := by decide +kernel
theorem d_MO_sample_143 : decode b_MO_sample 143 = .ok (.invokevirtual 244, 3) := by decide +kernel
theorem d_MO_sample_146 : decode b_MO_sample 146 = .ok (.aload_n 0, 1) := by decide +kernel
theorem d_MO_sample_147 : decode b_MO_sample 147 = .ok (.invokevirtual 211, 3) := by decide +kernel
theorem d_MO_sample_150 : decode b_MO_sample 150 = .ok (.iconst 1, 1) := by decide +kernel
theorem d_MO_sample_151 : decode b_MO_sample 151 = .ok (.ireturn, 1) := by decide +kernel
theorem d_MO_knowsLoud_0 : decode b_MO_knowsLoud 0 = .ok (.iconst 0, 1) := by decide +kernel
theorem d_MO_knowsLoud_1 : decode b_MO_knowsLoud 1 = .ok (.istore_n 2, 1) := by decide +kernel
theorem d_MO_knowsLoud_2 : decode b_MO_knowsLoud 2 = .ok (.iconst 4, 1) := by decide +kernel
theorem d_MO_knowsLoud_3 : decode b_MO_knowsLoud 3 = .ok (.iload_n 1, 1) := by decide +kernel
theorem d_MO_knowsLoud_4 : decode b_MO_knowsLoud 4 = .ok (.imul, 1) := by decide +kernel
theorem d_MO_knowsLoud_5 : decode b_MO_knowsLoud 5 = .ok (.istore_n 3, 1) := by decide +kernel
theorem d_MO_knowsLoud_6 : decode b_MO_knowsLoud 6 = .ok (.iload_n 3, 1) := by decide +kernel
theorem d_MO_knowsLoud_7 : decode b_MO_knowsLoud 7 = .ok (.iconst 4, 1) := by decide +kernel
theorem d_MO_knowsLoud_8 : decode b_MO_knowsLoud 8 = .ok (.iload_n 1, 1) := by decide +kernel
theorem d_MO_knowsLoud_9 : decode b_MO_knowsLoud 9 = .ok (.imul, 1) := by decide +kernel
theorem d_MO_knowsLoud_10 : decode b_MO_knowsLoud 10 = .ok (.iconst 4, 1) := by decide +kernel
theorem d_MO_knowsLoud_11 : decode b_MO_knowsLoud 11 = .ok (.iadd, 1) := by decide +kernel
theorem d_MO_knowsLoud_12 : decode b_MO_knowsLoud 12 = .ok (.if_icmp .ge 29, 3) := by decide +kernel
theorem d_MO_knowsLoud_15 : decode b_MO_knowsLoud 15 = .ok (.iload_n 2, 1) := by decide +kernel
theorem d_MO_knowsLoud_16 : decode b_MO_knowsLoud 16 = .ok (.ifCond .ne 13, 3) := by decide +kernel
theorem d_MO_knowsLoud_19 : decode b_MO_knowsLoud 19 = .ok (.aload_n 0, 1) := by decide +kernel
theorem d_MO_knowsLoud_20 : decode b_MO_knowsLoud 20 = .ok (.getfield 107, 3) := by decide +kernel
theorem d_MO_knowsLoud_23 : decode b_MO_knowsLoud 23 = .ok (.iload_n 3, 1) := by decide +kernel
theorem d_MO_knowsLoud_24 : decode b_MO_knowsLoud 24 = .ok (.iaload, 1) := by decide +kernel
theorem d_MO_knowsLoud_25 : decode b_MO_knowsLoud 25 = .ok (.iconst 2, 1) := by decide +kernel
theorem d_MO_knowsLoud_26 : decode b_MO_knowsLoud 26 = .ok (.if_icmp .ne 7, 3) := by decide +kernel
theorem d_MO_knowsLoud_29 : decode b_MO_knowsLoud 29 = .ok (.iconst 1, 1) := by decide +kernel
theorem d_MO_knowsLoud_30 : decode b_MO_knowsLoud 30 = .ok (.goto 4, 3) := by decide +kernel
theorem d_MO_knowsLoud_33 : decode b_MO_knowsLoud 33 = .ok (.iconst 0, 1) := by decide +kernel
theorem d_MO_knowsLoud_34 : decode b_MO_knowsLoud 34 = .ok (.istore_n 2, 1) := by decide +kernel
theorem d_MO_knowsLoud_35 : decode b_MO_knowsLoud 35 = .ok (.iinc 3 1, 3) := by decide +kernel
theorem d_MO_knowsLoud_38 : decode b_MO_knowsLoud 38 = .ok (.goto (-32), 3) := by decide +kernel
theorem d_MO_knowsLoud_41 : decode b_MO_knowsLoud 41 = .ok (.iload_n 2, 1) := by decide +kernel
theorem d_MO_knowsLoud_42 : decode b_MO_knowsLoud 42 = .ok (.ireturn, 1) := by decide +kernel
theorem d_MO_tick_0 : decode b_MO_tick 0 = .ok (.aload_n 0, 1) := by decide +kernel
theorem d_MO_tick_1 : decode b_MO_tick 1 = .ok (.iload_n 1, 1) := by decide +kernel
theorem d_MO_tick_2 : decode b_MO_tick 2 = .ok (.iconst 1, 1) := by decide +kernel
theorem d_MO_tick_3 : decode b_MO_tick 3 = .ok (.if_icmp .lt 21, 3) := by decide +kernel
theorem d_MO_tick_6 : decode b_MO_tick 6 = .ok (.iload_n 1, 1) := by decide +kernel
theorem d_MO_tick_7 : decode b_MO_tick 7 = .ok (.sipush 10000, 3) := by decide +kernel
theorem d_MO_tick_10 : decode b_MO_tick 10 = .ok (.if_icmp .gt 14, 3) := by decide +kernel
theorem d_MO_tick_13 : decode b_MO_tick 13 = .ok (.aload_n 0, 1) := by decide +kernel
theorem d_MO_tick_14 : decode b_MO_tick 14 = .ok (.getfield 223, 3) := by decide +kernel
theorem d_MO_tick_17 : decode b_MO_tick 17 = .ok (.iload_n 1, 1) := by decide +kernel
theorem d_MO_tick_18 : decode b_MO_tick 18 = .ok (.iadd, 1) := by decide +kernel
theorem d_MO_tick_19 : decode b_MO_tick 19 = .ok (.ldc 248, 2) := by decide +kernel
theorem d_MO_tick_21 : decode b_MO_tick 21 = .ok (.if_icmp .le 7, 3) := by decide +kernel
theorem d_MO_tick_24 : decode b_MO_tick 24 = .ok (.iconst 1, 1) := by decide +kernel
theorem d_MO_tick_25 : decode b_MO_tick 25 = .ok (.goto 4, 3) := by decide +kernel
theorem d_MO_tick_28 : decode b_MO_tick 28 = .ok (.iconst 0, 1) := by decide +kernel
theorem d_MO_tick_29 : decode b_MO_tick 29 = .ok (.putfield 181, 3) := by decide +kernel
theorem d_MO_tick_32 : decode b_MO_tick 32 = .ok (.aload_n 0, 1) := by decide +kernel
theorem d_MO_tick_33 : decode b_MO_tick 33 = .ok (.getfield 181, 3) := by decide +kernel
theorem d_MO_tick_36 : decode b_MO_tick 36 = .ok (.ifCond .le 5, 3) := by decide +kernel
theorem d_MO_tick_39 : decode b_MO_tick 39 = .ok (.iconst 0, 1) := by decide +kernel
theorem d_MO_tick_40 : decode b_MO_tick 40 = .ok (.ireturn, 1) := by decide +kernel
theorem d_MO_tick_41 : decode b_MO_tick 41 = .ok (.aload_n 0, 1) := by decide +kernel
theorem d_MO_tick_42 : decode b_MO_tick 42 = .ok (.getfield 217, 3) := by decide +kernel
theorem d_MO_tick_45 : decode b_MO_tick 45 = .ok (.istore_n 2, 1) := by decide +kernel
theorem d_MO_tick_46 : decode b_MO_tick 46 = .ok (.aload_n 0, 1) := by decide +kernel
theorem d_MO_tick_47 : decode b_MO_tick 47 = .ok (.dup, 1) := by decide +kernel
theorem d_MO_tick_48 : decode b_MO_tick 48 = .ok (.getfield 223, 3) := by decide +kernel
theorem d_MO_tick_51 : decode b_MO_tick 51 = .ok (.iload_n 1, 1) := by decide +kernel
theorem d_MO_tick_52 : decode b_MO_tick 52 = .ok (.iadd, 1) := by decide +kernel
theorem d_MO_tick_53 : decode b_MO_tick 53 = .ok (.putfield 223, 3) := by decide +kernel
theorem d_MO_tick_56 : decode b_MO_tick 56 = .ok (.iconst 0, 1) := by decide +kernel
theorem d_MO_tick_57 : decode b_MO_tick 57 = .ok (.istore_n 3, 1) := by decide +kernel
theorem d_MO_tick_58 : decode b_MO_tick 58 = .ok (.iload_n 3, 1) := by decide +kernel
theorem d_MO_tick_59 : decode b_MO_tick 59 = .ok (.bipush 8, 2) := by decide +kernel
theorem d_MO_tick_61 : decode b_MO_tick 61 = .ok (.if_icmp .ge 81, 3) := by decide +kernel
theorem d_MO_tick_64 : decode b_MO_tick 64 = .ok (.iconst 0, 1) := by decide +kernel
theorem d_MO_tick_65 : decode b_MO_tick 65 = .ok (.istore 4, 2) := by decide +kernel
theorem d_MO_tick_67 : decode b_MO_tick 67 = .ok (.iload 4, 2) := by decide +kernel
theorem d_MO_tick_69 : decode b_MO_tick 69 = .ok (.aload_n 0, 1) := by decide +kernel
theorem d_MO_tick_70 : decode b_MO_tick 70 = .ok (.getfield 22, 3) := by decide +kernel
theorem d_MO_tick_73 : decode b_MO_tick 73 = .ok (.iload_n 3, 1) := by decide +kernel
theorem d_MO_tick_74 : decode b_MO_tick 74 = .ok (.iaload, 1) := by decide +kernel
theorem d_MO_tick_75 : decode b_MO_tick 75 = .ok (.if_icmp .ge 61, 3) := by decide +kernel
theorem d_MO_tick_78 : decode b_MO_tick 78 = .ok (.aload_n 0, 1) := by decide +kernel
theorem d_MO_tick_79 : decode b_MO_tick 79 = .ok (.getfield 25, 3) := by decide +kernel
theorem d_MO_tick_82 : decode b_MO_tick 82 = .ok (.iload_n 3, 1) := by decide +kernel
theorem d_MO_tick_83 : decode b_MO_tick 83 = .ok (.iaload, 1) := by decide +kernel
theorem d_MO_tick_84 : decode b_MO_tick 84 = .ok (.ifCond .eq 52, 3) := by decide +kernel
theorem d_MO_tick_87 : decode b_MO_tick 87 = .ok (.aload_n 0, 1) := by decide +kernel
theorem d_MO_tick_88 : decode b_MO_tick 88 = .ok (.getfield 80, 3) := by decide +kernel
theorem d_MO_tick_91 : decode b_MO_tick 91 = .ok (.iconst 4, 1) := by decide +kernel
theorem d_MO_tick_92 : decode b_MO_tick 92 = .ok (.iload_n 3, 1) := by decide +kernel
theorem d_MO_tick_93 : decode b_MO_tick 93 = .ok (.imul, 1) := by decide +kernel
theorem d_MO_tick_94 : decode b_MO_tick 94 = .ok (.iload 4, 2) := by decide +kernel
theorem d_MO_tick_96 : decode b_MO_tick 96 = .ok (.iadd, 1) := by decide +kernel
theorem d_MO_tick_97 : decode b_MO_tick 97 = .ok (.baload, 1) := by decide +kernel
theorem d_MO_tick_98 : decode b_MO_tick 98 = .ok (.ifCond .eq 32, 3) := by decide +kernel
theorem d_MO_tick_101 : decode b_MO_tick 101 = .ok (.aload_n 0, 1) := by decide +kernel
theorem d_MO_tick_102 : decode b_MO_tick 102 = .ok (.getfield 223, 3) := by decide +kernel
theorem d_MO_tick_105 : decode b_MO_tick 105 = .ok (.aload_n 0, 1) := by decide +kernel
theorem d_MO_tick_106 : decode b_MO_tick 106 = .ok (.getfield 89, 3) := by decide +kernel
theorem d_MO_tick_109 : decode b_MO_tick 109 = .ok (.iconst 4, 1) := by decide +kernel
theorem d_MO_tick_110 : decode b_MO_tick 110 = .ok (.iload_n 3, 1) := by decide +kernel
theorem d_MO_tick_111 : decode b_MO_tick 111 = .ok (.imul, 1) := by decide +kernel
theorem d_MO_tick_112 : decode b_MO_tick 112 = .ok (.iload 4, 2) := by decide +kernel
theorem d_MO_tick_114 : decode b_MO_tick 114 = .ok (.iadd, 1) := by decide +kernel
theorem d_MO_tick_115 : decode b_MO_tick 115 = .ok (.iaload, 1) := by decide +kernel
theorem d_MO_tick_116 : decode b_MO_tick 116 = .ok (.isub, 1) := by decide +kernel
theorem d_MO_tick_117 : decode b_MO_tick 117 = .ok (.sipush 1000, 3) := by decide +kernel
theorem d_MO_tick_120 : decode b_MO_tick 120 = .ok (.if_icmp .lt 10, 3) := by decide +kernel
theorem d_MO_tick_123 : decode b_MO_tick 123 = .ok (.aload_n 0, 1) := by decide +kernel
theorem d_MO_tick_124 : decode b_MO_tick 124 = .ok (.iload_n 3, 1) := by decide +kernel
theorem d_MO_tick_125 : decode b_MO_tick 125 = .ok (.iload 4, 2) := by decide +kernel
theorem d_MO_tick_127 : decode b_MO_tick 127 = .ok (.invokevirtual 244, 3) := by decide +kernel
theorem d_MO_tick_130 : decode b_MO_tick 130 = .ok (.iinc 4 1, 3) := by decide +kernel
theorem d_MO_tick_133 : decode b_MO_tick 133 = .ok (.goto (-66), 3) := by decide +kernel
theorem d_MO_tick_136 : decode b_MO_tick 136 = .ok (.iinc 3 1, 3) := by decide +kernel
theorem d_MO_tick_139 : decode b_MO_tick 139 = .ok (.goto (-81), 3) := by decide +kernel
theorem d_MO_tick_142 : decode b_MO_tick 142 = .ok (.aload_n 0, 1) := by decide +kernel
theorem d_MO_tick_143 : decode b_MO_tick 143 = .ok (.invokevirtual 211, 3) := by decide +kernel
theorem d_MO_tick_146 : decode b_MO_tick 146 = .ok (.iconst 0, 1) := by decide +kernel
theorem d_MO_tick_147 : decode b_MO_tick 147 = .ok (.istore_n 3, 1) := by decide +kernel
theorem d_MO_tick_148 : decode b_MO_tick 148 = .ok (.iload_n 3, 1) := by decide +kernel
theorem d_MO_tick_149 : decode b_MO_tick 149 = .ok (.bipush 8, 2) := by decide +kernel
theorem d_MO_tick_151 : decode b_MO_tick 151 = .ok (.if_icmp .ge 39, 3) := by decide +kernel
theorem d_MO_tick_154 : decode b_MO_tick 154 = .ok (.aload_n 0, 1) := by decide +kernel
theorem d_MO_tick_155 : decode b_MO_tick 155 = .ok (.iload_n 3, 1) := by decide +kernel
theorem d_MO_tick_156 : decode b_MO_tick 156 = .ok (.invokevirtual 249, 3) := by decide +kernel
theorem d_MO_tick_159 : decode b_MO_tick 159 = .ok (.ifCond .eq 25, 3) := by decide +kernel
theorem d_MO_tick_162 : decode b_MO_tick 162 = .ok (.aload_n 0, 1) := by decide +kernel
theorem d_MO_tick_163 : decode b_MO_tick 163 = .ok (.getfield 223, 3) := by decide +kernel
theorem d_MO_tick_166 : decode b_MO_tick 166 = .ok (.aload_n 0, 1) := by decide +kernel
theorem d_MO_tick_167 : decode b_MO_tick 167 = .ok (.getfield 113, 3) := by decide +kernel
theorem d_MO_tick_170 : decode b_MO_tick 170 = .ok (.iload_n 3, 1) := by decide +kernel
theorem d_MO_tick_171 : decode b_MO_tick 171 = .ok (.iaload, 1) := by decide +kernel
theorem d_MO_tick_172 : decode b_MO_tick 172 = .ok (.isub, 1) := by decide +kernel
theorem d_MO_tick_173 : decode b_MO_tick 173 = .ok (.sipush 1000, 3) := by decide +kernel
theorem d_MO_tick_176 : decode b_MO_tick 176 = .ok (.if_icmp .lt 8, 3) := by decide +kernel
theorem d_MO_tick_179 : decode b_MO_tick 179 = .ok (.aload_n 0, 1) := by decide +kernel
theorem d_MO_tick_180 : decode b_MO_tick 180 = .ok (.iload_n 3, 1) := by decide +kernel
theorem d_MO_tick_181 : decode b_MO_tick 181 = .ok (.invokevirtual 252, 3) := by decide +kernel
theorem d_MO_tick_184 : decode b_MO_tick 184 = .ok (.iinc 3 1, 3) := by decide +kernel
theorem d_MO_tick_187 : decode b_MO_tick 187 = .ok (.goto (-39), 3) := by decide +kernel
theorem d_MO_tick_190 : decode b_MO_tick 190 = .ok (.aload_n 0, 1) := by decide +kernel
theorem d_MO_tick_191 : decode b_MO_tick 191 = .ok (.getfield 217, 3) := by decide +kernel
theorem d_MO_tick_194 : decode b_MO_tick 194 = .ok (.iload_n 2, 1) := by decide +kernel
theorem d_MO_tick_195 : decode b_MO_tick 195 = .ok (.isub, 1) := by decide +kernel
theorem d_MO_tick_196 : decode b_MO_tick 196 = .ok (.ireturn, 1) := by decide +kernel
theorem d_MO_shows_0 : decode b_MO_shows 0 = .ok (.iconst 0, 1) := by decide +kernel
theorem d_MO_shows_1 : decode b_MO_shows 1 = .ok (.istore 7, 2) := by decide +kernel
theorem d_MO_shows_3 : decode b_MO_shows 3 = .ok (.iload 7, 2) := by decide +kernel
theorem d_MO_shows_5 : decode b_MO_shows 5 = .ok (.aload_n 0, 1) := by decide +kernel
theorem d_MO_shows_6 : decode b_MO_shows 6 = .ok (.getfield 255, 3) := by decide +kernel
theorem d_MO_shows_9 : decode b_MO_shows 9 = .ok (.if_icmp .ge 91, 3) := by decide +kernel
theorem d_MO_shows_12 : decode b_MO_shows 12 = .ok (.aload_n 0, 1) := by decide +kernel
theorem d_MO_shows_13 : decode b_MO_shows 13 = .ok (.getfield 140, 3) := by decide +kernel
theorem d_MO_shows_16 : decode b_MO_shows 16 = .ok (.iload 7, 2) := by decide +kernel
theorem d_MO_shows_18 : decode b_MO_shows 18 = .ok (.iaload, 1) := by decide +kernel
theorem d_MO_shows_19 : decode b_MO_shows 19 = .ok (.iload_n 2, 1) := by decide +kernel
theorem d_MO_shows_20 : decode b_MO_shows 20 = .ok (.if_icmp .ne 74, 3) := by decide +kernel
theorem d_MO_shows_23 : decode b_MO_shows 23 = .ok (.aload_n 0, 1) := by decide +kernel
theorem d_MO_shows_24 : decode b_MO_shows 24 = .ok (.getfield 143, 3) := by decide +kernel
theorem d_MO_shows_27 : decode b_MO_shows 27 = .ok (.iload 7, 2) := by decide +kernel
theorem d_MO_shows_29 : decode b_MO_shows 29 = .ok (.iaload, 1) := by decide +kernel
theorem d_MO_shows_30 : decode b_MO_shows 30 = .ok (.iload_n 3, 1) := by decide +kernel
theorem d_MO_shows_31 : decode b_MO_shows 31 = .ok (.if_icmp .ne 63, 3) := by decide +kernel
theorem d_MO_shows_34 : decode b_MO_shows 34 = .ok (.aload_n 0, 1) := by decide +kernel
theorem d_MO_shows_35 : decode b_MO_shows 35 = .ok (.getfield 146, 3) := by decide +kernel
theorem d_MO_shows_38 : decode b_MO_shows 38 = .ok (.iload 7, 2) := by decide +kernel
theorem d_MO_shows_40 : decode b_MO_shows 40 = .ok (.iaload, 1) := by decide +kernel
theorem d_MO_shows_41 : decode b_MO_shows 41 = .ok (.iload 6, 2) := by decide +kernel
theorem d_MO_shows_43 : decode b_MO_shows 43 = .ok (.if_icmp .ne 51, 3) := by decide +kernel
theorem d_MO_shows_46 : decode b_MO_shows 46 = .ok (.iload_n 1, 1) := by decide +kernel
theorem d_MO_shows_47 : decode b_MO_shows 47 = .ok (.aload_n 0, 1) := by decide +kernel
theorem d_MO_shows_48 : decode b_MO_shows 48 = .ok (.getfield 149, 3) := by decide +kernel
theorem d_MO_shows_51 : decode b_MO_shows 51 = .ok (.iload 7, 2) := by decide +kernel
theorem d_MO_shows_53 : decode b_MO_shows 53 = .ok (.iaload, 1) := by decide +kernel
theorem d_MO_shows_54 : decode b_MO_shows 54 = .ok (.if_icmp .le 40, 3) := by decide +kernel
theorem d_MO_shows_57 : decode b_MO_shows 57 = .ok (.aload_n 0, 1) := by decide +kernel
theorem d_MO_shows_58 : decode b_MO_shows 58 = .ok (.getfield 149, 3) := by decide +kernel
theorem d_MO_shows_61 : decode b_MO_shows 61 = .ok (.iload 7, 2) := by decide +kernel
theorem d_MO_shows_63 : decode b_MO_shows 63 = .ok (.iload_n 1, 1) := by decide +kernel
theorem d_MO_shows_64 : decode b_MO_shows 64 = .ok (.iastore, 1) := by decide +kernel
theorem d_MO_shows_65 : decode b_MO_shows 65 = .ok (.aload_n 0, 1) := by decide +kernel
theorem d_MO_shows_66 : decode b_MO_shows 66 = .ok (.getfield 152, 3) := by decide +kernel
theorem d_MO_shows_69 : decode b_MO_shows 69 = .ok (.iload 7, 2) := by decide +kernel
theorem d_MO_shows_71 : decode b_MO_shows 71 = .ok (.iload 4, 2) := by decide +kernel
theorem d_MO_shows_73 : decode b_MO_shows 73 = .ok (.iastore, 1) := by decide +kernel
theorem d_MO_shows_74 : decode b_MO_shows 74 = .ok (.aload_n 0, 1) := by decide +kernel
theorem d_MO_shows_75 : decode b_MO_shows 75 = .ok (.getfield 155, 3) := by decide +kernel
theorem d_MO_shows_78 : decode b_MO_shows 78 = .ok (.iload 7, 2) := by decide +kernel
theorem d_MO_shows_80 : decode b_MO_shows 80 = .ok (.iload 5, 2) := by decide +kernel
theorem d_MO_shows_82 : decode b_MO_shows 82 = .ok (.iastore, 1) := by decide +kernel
theorem d_MO_shows_83 : decode b_MO_shows 83 = .ok (.aload_n 0, 1) := by decide +kernel
theorem d_MO_shows_84 : decode b_MO_shows 84 = .ok (.getfield 158, 3) := by decide +kernel
theorem d_MO_shows_87 : decode b_MO_shows 87 = .ok (.iload 7, 2) := by decide +kernel
theorem d_MO_shows_89 : decode b_MO_shows 89 = .ok (.aload_n 0, 1) := by decide +kernel
theorem d_MO_shows_90 : decode b_MO_shows 90 = .ok (.getfield 223, 3) := by decide +kernel
theorem d_MO_shows_93 : decode b_MO_shows 93 = .ok (.iastore, 1) := by decide +kernel
theorem d_MO_shows_94 : decode b_MO_shows 94 = .ok (.iinc 7 1, 3) := by decide +kernel
theorem d_MO_shows_97 : decode b_MO_shows 97 = .ok (.goto (-94), 3) := by decide +kernel
theorem d_MO_shows_100 : decode b_MO_shows 100 = .ok (.return_, 1) := by decide +kernel
theorem d_MO_knows_0 : decode b_MO_knows 0 = .ok (.iload_n 1, 1) := by decide +kernel
theorem d_MO_knows_1 : decode b_MO_knows 1 = .ok (.aload_n 0, 1) := by decide +kernel
theorem d_MO_knows_2 : decode b_MO_knows 2 = .ok (.getfield 110, 3) := by decide +kernel
theorem d_MO_knows_5 : decode b_MO_knows 5 = .ok (.iload_n 3, 1) := by decide +kernel
theorem d_MO_knows_6 : decode b_MO_knows 6 = .ok (.iaload, 1) := by decide +kernel
theorem d_MO_knows_7 : decode b_MO_knows 7 = .ok (.if_icmp .gt 13, 3) := by decide +kernel
theorem d_MO_knows_10 : decode b_MO_knows 10 = .ok (.aload_n 0, 1) := by decide +kernel
theorem d_MO_knows_11 : decode b_MO_knows 11 = .ok (.getfield 107, 3) := by decide +kernel
theorem d_MO_knows_14 : decode b_MO_knows 14 = .ok (.iload_n 3, 1) := by decide +kernel
theorem d_MO_knows_15 : decode b_MO_knows 15 = .ok (.iaload, 1) := by decide +kernel
theorem d_MO_knows_16 : decode b_MO_knows 16 = .ok (.ifCond .le 4, 3) := by decide +kernel
theorem d_MO_knows_19 : decode b_MO_knows 19 = .ok (.return_, 1) := by decide +kernel
theorem d_MO_knows_20 : decode b_MO_knows 20 = .ok (.aload_n 0, 1) := by decide +kernel
theorem d_MO_knows_21 : decode b_MO_knows 21 = .ok (.getfield 110, 3) := by decide +kernel
theorem d_MO_knows_24 : decode b_MO_knows 24 = .ok (.iload_n 3, 1) := by decide +kernel
theorem d_MO_knows_25 : decode b_MO_knows 25 = .ok (.iload_n 1, 1) := by decide +kernel
theorem d_MO_knows_26 : decode b_MO_knows 26 = .ok (.iastore, 1) := by decide +kernel
theorem d_MO_knows_27 : decode b_MO_knows 27 = .ok (.aload_n 0, 1) := by decide +kernel
theorem d_MO_knows_28 : decode b_MO_knows 28 = .ok (.getfield 107, 3) := by decide +kernel
theorem d_MO_knows_31 : decode b_MO_knows 31 = .ok (.iload_n 3, 1) := by decide +kernel
theorem d_MO_knows_32 : decode b_MO_knows 32 = .ok (.iload 4, 2) := by decide +kernel
theorem d_MO_knows_34 : decode b_MO_knows 34 = .ok (.iconst 1, 1) := by decide +kernel
theorem d_MO_knows_35 : decode b_MO_knows 35 = .ok (.if_icmp .ne 7, 3) := by decide +kernel
theorem d_MO_knows_38 : decode b_MO_knows 38 = .ok (.iconst 2, 1) := by decide +kernel
theorem d_MO_knows_39 : decode b_MO_knows 39 = .ok (.goto 4, 3) := by decide +kernel
theorem d_MO_knows_42 : decode b_MO_knows 42 = .ok (.iconst 1, 1) := by decide +kernel
theorem d_MO_knows_43 : decode b_MO_knows 43 = .ok (.iastore, 1) := by decide +kernel
theorem d_MO_knows_44 : decode b_MO_knows 44 = .ok (.iload 4, 2) := by decide +kernel
theorem d_MO_knows_46 : decode b_MO_knows 46 = .ok (.iconst 1, 1) := by decide +kernel
theorem d_MO_knows_47 : decode b_MO_knows 47 = .ok (.if_icmp .ne 8, 3) := by decide +kernel
theorem d_MO_knows_50 : decode b_MO_knows 50 = .ok (.aload_n 0, 1) := by decide +kernel
theorem d_MO_knows_51 : decode b_MO_knows 51 = .ok (.iload_n 2, 1) := by decide +kernel
theorem d_MO_knows_52 : decode b_MO_knows 52 = .ok (.invokevirtual 252, 3) := by decide +kernel
theorem d_MO_knows_55 : decode b_MO_knows 55 = .ok (.return_, 1) := by decide +kernel
theorem d_MO_judged_0 : decode b_MO_judged 0 = .ok (.iload_n 3, 1) := by decide +kernel
theorem d_MO_judged_1 : decode b_MO_judged 1 = .ok (.aload_n 0, 1) := by decide +kernel
theorem d_MO_judged_2 : decode b_MO_judged 2 = .ok (.getfield 19, 3) := by decide +kernel
theorem d_MO_judged_5 : decode b_MO_judged 5 = .ok (.iload_n 1, 1) := by decide +kernel
theorem d_MO_judged_6 : decode b_MO_judged 6 = .ok (.iaload, 1) := by decide +kernel
theorem d_MO_judged_7 : decode b_MO_judged 7 = .ok (.if_icmp .eq 5, 3) := by decide +kernel
theorem d_MO_judged_10 : decode b_MO_judged 10 = .ok (.iconst 1, 1) := by decide +kernel
theorem d_MO_judged_11 : decode b_MO_judged 11 = .ok (.ireturn, 1) := by decide +kernel
theorem d_MO_judged_12 : decode b_MO_judged 12 = .ok (.aload_n 0, 1) := by decide +kernel
theorem d_MO_judged_13 : decode b_MO_judged 13 = .ok (.getfield 47, 3) := by decide +kernel
theorem d_MO_judged_16 : decode b_MO_judged 16 = .ok (.iload_n 1, 1) := by decide +kernel
theorem d_MO_judged_17 : decode b_MO_judged 17 = .ok (.iaload, 1) := by decide +kernel
theorem d_MO_judged_18 : decode b_MO_judged 18 = .ok (.aload_n 0, 1) := by decide +kernel
theorem d_MO_judged_19 : decode b_MO_judged 19 = .ok (.getfield 161, 3) := by decide +kernel
theorem d_MO_judged_22 : decode b_MO_judged 22 = .ok (.iload_n 2, 1) := by decide +kernel
theorem d_MO_judged_23 : decode b_MO_judged 23 = .ok (.iaload, 1) := by decide +kernel
theorem d_MO_judged_24 : decode b_MO_judged 24 = .ok (.if_icmp .ne 20, 3) := by decide +kernel
theorem d_MO_judged_27 : decode b_MO_judged 27 = .ok (.aload_n 0, 1) := by decide +kernel
theorem d_MO_judged_28 : decode b_MO_judged 28 = .ok (.getfield 223, 3) := by decide +kernel
theorem d_MO_judged_31 : decode b_MO_judged 31 = .ok (.aload_n 0, 1) := by decide +kernel
theorem d_MO_judged_32 : decode b_MO_judged 32 = .ok (.getfield 50, 3) := by decide +kernel
theorem d_MO_judged_35 : decode b_MO_judged 35 = .ok (.iload_n 1, 1) := by decide +kernel
theorem d_MO_judged_36 : decode b_MO_judged 36 = .ok (.iaload, 1) := by decide +kernel
theorem d_MO_judged_37 : decode b_MO_judged 37 = .ok (.isub, 1) := by decide +kernel
theorem d_MO_judged_38 : decode b_MO_judged 38 = .ok (.sipush 10000, 3) := by decide +kernel
theorem d_MO_judged_41 : decode b_MO_judged 41 = .ok (.if_icmp .lt 5, 3) := by decide +kernel
theorem d_MO_judged_44 : decode b_MO_judged 44 = .ok (.iconst 2, 1) := by decide +kernel
theorem d_MO_judged_45 : decode b_MO_judged 45 = .ok (.ireturn, 1) := by decide +kernel
theorem d_MO_judged_46 : decode b_MO_judged 46 = .ok (.aload_n 0, 1) := by decide +kernel
theorem d_MO_judged_47 : decode b_MO_judged 47 = .ok (.getfield 28, 3) := by decide +kernel
theorem d_MO_judged_50 : decode b_MO_judged 50 = .ok (.iload_n 1, 1) := by decide +kernel
theorem d_MO_judged_51 : decode b_MO_judged 51 = .ok (.baload, 1) := by decide +kernel
theorem d_MO_judged_52 : decode b_MO_judged 52 = .ok (.ifCond .ne 5, 3) := by decide +kernel
theorem d_MO_judged_55 : decode b_MO_judged 55 = .ok (.iconst 3, 1) := by decide +kernel
theorem d_MO_judged_56 : decode b_MO_judged 56 = .ok (.ireturn, 1) := by decide +kernel
theorem d_MO_judged_57 : decode b_MO_judged 57 = .ok (.aload_n 0, 1) := by decide +kernel
theorem d_MO_judged_58 : decode b_MO_judged 58 = .ok (.getfield 164, 3) := by decide +kernel
theorem d_MO_judged_61 : decode b_MO_judged 61 = .ok (.iload_n 2, 1) := by decide +kernel
theorem d_MO_judged_62 : decode b_MO_judged 62 = .ok (.iaload, 1) := by decide +kernel
theorem d_MO_judged_63 : decode b_MO_judged 63 = .ok (.aload_n 0, 1) := by decide +kernel
theorem d_MO_judged_64 : decode b_MO_judged 64 = .ok (.getfield 35, 3) := by decide +kernel
theorem d_MO_judged_67 : decode b_MO_judged 67 = .ok (.iload_n 1, 1) := by decide +kernel
theorem d_MO_judged_68 : decode b_MO_judged 68 = .ok (.iaload, 1) := by decide +kernel
theorem d_MO_judged_69 : decode b_MO_judged 69 = .ok (.aload_n 0, 1) := by decide +kernel
theorem d_MO_judged_70 : decode b_MO_judged 70 = .ok (.getfield 38, 3) := by decide +kernel
theorem d_MO_judged_73 : decode b_MO_judged 73 = .ok (.iload_n 1, 1) := by decide +kernel
theorem d_MO_judged_74 : decode b_MO_judged 74 = .ok (.iaload, 1) := by decide +kernel
theorem d_MO_judged_75 : decode b_MO_judged 75 = .ok (.aload_n 0, 1) := by decide +kernel
theorem d_MO_judged_76 : decode b_MO_judged 76 = .ok (.getfield 41, 3) := by decide +kernel
theorem d_MO_judged_79 : decode b_MO_judged 79 = .ok (.iload_n 1, 1) := by decide +kernel
theorem d_MO_judged_80 : decode b_MO_judged 80 = .ok (.iaload, 1) := by decide +kernel
theorem d_MO_judged_81 : decode b_MO_judged 81 = .ok (.invokestatic 240, 3) := by decide +kernel
theorem d_MO_judged_84 : decode b_MO_judged 84 = .ok (.ifCond .ne 5, 3) := by decide +kernel
theorem d_MO_judged_87 : decode b_MO_judged 87 = .ok (.iconst 4, 1) := by decide +kernel
theorem d_MO_judged_88 : decode b_MO_judged 88 = .ok (.ireturn, 1) := by decide +kernel
theorem d_MO_judged_89 : decode b_MO_judged 89 = .ok (.aload_n 0, 1) := by decide +kernel
theorem d_MO_judged_90 : decode b_MO_judged 90 = .ok (.getfield 44, 3) := by decide +kernel
theorem d_MO_judged_93 : decode b_MO_judged 93 = .ok (.iload_n 1, 1) := by decide +kernel
theorem d_MO_judged_94 : decode b_MO_judged 94 = .ok (.iaload, 1) := by decide +kernel
theorem d_MO_judged_95 : decode b_MO_judged 95 = .ok (.aload_n 0, 1) := by decide +kernel
theorem d_MO_judged_96 : decode b_MO_judged 96 = .ok (.getfield 167, 3) := by decide +kernel
theorem d_MO_judged_99 : decode b_MO_judged 99 = .ok (.iload_n 2, 1) := by decide +kernel
theorem d_MO_judged_100 : decode b_MO_judged 100 = .ok (.iaload, 1) := by decide +kernel
theorem d_MO_judged_101 : decode b_MO_judged 101 = .ok (.if_icmp .eq 7, 3) := by decide +kernel
theorem d_MO_judged_104 : decode b_MO_judged 104 = .ok (.iconst 5, 1) := by decide +kernel
theorem d_MO_judged_105 : decode b_MO_judged 105 = .ok (.goto 4, 3) := by decide +kernel
theorem d_MO_judged_108 : decode b_MO_judged 108 = .ok (.iconst 0, 1) := by decide +kernel
theorem d_MO_judged_109 : decode b_MO_judged 109 = .ok (.ireturn, 1) := by decide +kernel
theorem d_MO_orders_0 : decode b_MO_orders 0 = .ok (.aload_n 0, 1) := by decide +kernel
theorem d_MO_orders_1 : decode b_MO_orders 1 = .ok (.getfield 170, 3) := by decide +kernel
theorem d_MO_orders_4 : decode b_MO_orders 4 = .ok (.iload_n 2, 1) := by decide +kernel
theorem d_MO_orders_5 : decode b_MO_orders 5 = .ok (.iaload, 1) := by decide +kernel
theorem d_MO_orders_6 : decode b_MO_orders 6 = .ok (.ifCond .ge 37, 3) := by decide +kernel
theorem d_MO_orders_9 : decode b_MO_orders 9 = .ok (.aload_n 0, 1) := by decide +kernel
theorem d_MO_orders_10 : decode b_MO_orders 10 = .ok (.getfield 170, 3) := by decide +kernel
theorem d_MO_orders_13 : decode b_MO_orders 13 = .ok (.iload_n 2, 1) := by decide +kernel
theorem d_MO_orders_14 : decode b_MO_orders 14 = .ok (.aload_n 0, 1) := by decide +kernel
theorem d_MO_orders_15 : decode b_MO_orders 15 = .ok (.iload_n 1, 1) := by decide +kernel
theorem d_MO_orders_16 : decode b_MO_orders 16 = .ok (.iload_n 2, 1) := by decide +kernel
theorem d_MO_orders_17 : decode b_MO_orders 17 = .ok (.iload_n 3, 1) := by decide +kernel
theorem d_MO_orders_18 : decode b_MO_orders 18 = .ok (.invokevirtual 258, 3) := by decide +kernel
theorem d_MO_orders_21 : decode b_MO_orders 21 = .ok (.iastore, 1) := by decide +kernel
theorem d_MO_orders_22 : decode b_MO_orders 22 = .ok (.aload_n 0, 1) := by decide +kernel
theorem d_MO_orders_23 : decode b_MO_orders 23 = .ok (.getfield 170, 3) := by decide +kernel
theorem d_MO_orders_26 : decode b_MO_orders 26 = .ok (.iload_n 2, 1) := by decide +kernel
theorem d_MO_orders_27 : decode b_MO_orders 27 = .ok (.iaload, 1) := by decide +kernel
theorem d_MO_orders_28 : decode b_MO_orders 28 = .ok (.ifCond .ne 15, 3) := by decide +kernel
theorem d_MO_orders_31 : decode b_MO_orders 31 = .ok (.aload_n 0, 1) := by decide +kernel
theorem d_MO_orders_32 : decode b_MO_orders 32 = .ok (.getfield 44, 3) := by decide +kernel
theorem d_MO_orders_35 : decode b_MO_orders 35 = .ok (.iload_n 1, 1) := by decide +kernel
theorem d_MO_orders_36 : decode b_MO_orders 36 = .ok (.aload_n 0, 1) := by decide +kernel
theorem d_MO_orders_37 : decode b_MO_orders 37 = .ok (.getfield 164, 3) := by decide +kernel
theorem d_MO_orders_40 : decode b_MO_orders 40 = .ok (.iload_n 2, 1) := by decide +kernel
theorem d_MO_orders_41 : decode b_MO_orders 41 = .ok (.iaload, 1) := by decide +kernel
theorem d_MO_orders_42 : decode b_MO_orders 42 = .ok (.iastore, 1) := by decide +kernel
theorem d_MO_orders_43 : decode b_MO_orders 43 = .ok (.aload_n 0, 1) := by decide +kernel
theorem d_MO_orders_44 : decode b_MO_orders 44 = .ok (.bipush 6, 2) := by decide +kernel
theorem d_MO_orders_46 : decode b_MO_orders 46 = .ok (.iload_n 1, 1) := by decide +kernel
theorem d_MO_orders_47 : decode b_MO_orders 47 = .ok (.iload_n 2, 1) := by decide +kernel
theorem d_MO_orders_48 : decode b_MO_orders 48 = .ok (.aload_n 0, 1) := by decide +kernel
theorem d_MO_orders_49 : decode b_MO_orders 49 = .ok (.getfield 170, 3) := by decide +kernel
theorem d_MO_orders_52 : decode b_MO_orders 52 = .ok (.iload_n 2, 1) := by decide +kernel
theorem d_MO_orders_53 : decode b_MO_orders 53 = .ok (.iaload, 1) := by decide +kernel
theorem d_MO_orders_54 : decode b_MO_orders 54 = .ok (.iconst 0, 1) := by decide +kernel
theorem d_MO_orders_55 : decode b_MO_orders 55 = .ok (.invokevirtual 226, 3) := by decide +kernel
theorem d_MO_orders_58 : decode b_MO_orders 58 = .ok (.return_, 1) := by decide +kernel
theorem d_MO_carry_0 : decode b_MO_carry 0 = .ok (.aload_n 0, 1) := by decide +kernel
theorem d_MO_carry_1 : decode b_MO_carry 1 = .ok (.iconst 0, 1) := by decide +kernel
theorem d_MO_carry_2 : decode b_MO_carry 2 = .ok (.putfield 181, 3) := by decide +kernel
theorem d_MO_carry_5 : decode b_MO_carry 5 = .ok (.aload_n 0, 1) := by decide +kernel
theorem d_MO_carry_6 : decode b_MO_carry 6 = .ok (.iload_n 1, 1) := by decide +kernel
theorem d_MO_carry_7 : decode b_MO_carry 7 = .ok (.invokevirtual 262, 3) := by decide +kernel
theorem d_MO_carry_10 : decode b_MO_carry 10 = .ok (.istore_n 3, 1) := by decide +kernel
theorem d_MO_carry_11 : decode b_MO_carry 11 = .ok (.iload_n 3, 1) := by decide +kernel
theorem d_MO_carry_12 : decode b_MO_carry 12 = .ok (.ifCond .ge 5, 3) := by decide +kernel
theorem d_MO_carry_15 : decode b_MO_carry 15 = .ok (.iconst 0, 1) := by decide +kernel
theorem d_MO_carry_16 : decode b_MO_carry 16 = .ok (.ireturn, 1) := by decide +kernel
theorem d_MO_carry_17 : decode b_MO_carry 17 = .ok (.aload_n 0, 1) := by decide +kernel
theorem d_MO_carry_18 : decode b_MO_carry 18 = .ok (.getfield 119, 3) := by decide +kernel
theorem d_MO_carry_21 : decode b_MO_carry 21 = .ok (.iload_n 3, 1) := by decide +kernel
theorem d_MO_carry_22 : decode b_MO_carry 22 = .ok (.iaload, 1) := by decide +kernel
theorem d_MO_carry_23 : decode b_MO_carry 23 = .ok (.istore 4, 2) := by decide +kernel
theorem d_MO_carry_25 : decode b_MO_carry 25 = .ok (.aload_n 0, 1) := by decide +kernel
theorem d_MO_carry_26 : decode b_MO_carry 26 = .ok (.getfield 122, 3) := by decide +kernel
theorem d_MO_carry_29 : decode b_MO_carry 29 = .ok (.iload_n 3, 1) := by decide +kernel
theorem d_MO_carry_30 : decode b_MO_carry 30 = .ok (.iaload, 1) := by decide +kernel
theorem d_MO_carry_31 : decode b_MO_carry 31 = .ok (.istore 5, 2) := by decide +kernel
theorem d_MO_carry_33 : decode b_MO_carry 33 = .ok (.aload_n 0, 1) := by decide +kernel
theorem d_MO_carry_34 : decode b_MO_carry 34 = .ok (.getfield 125, 3) := by decide +kernel
theorem d_MO_carry_37 : decode b_MO_carry 37 = .ok (.iload_n 3, 1) := by decide +kernel
theorem d_MO_carry_38 : decode b_MO_carry 38 = .ok (.iaload, 1) := by decide +kernel
theorem d_MO_carry_39 : decode b_MO_carry 39 = .ok (.istore 6, 2) := by decide +kernel
theorem d_MO_carry_41 : decode b_MO_carry 41 = .ok (.aload_n 0, 1) := by decide +kernel
theorem d_MO_carry_42 : decode b_MO_carry 42 = .ok (.getfield 128, 3) := by decide +kernel
theorem d_MO_carry_45 : decode b_MO_carry 45 = .ok (.iload_n 3, 1) := by decide +kernel
theorem d_MO_carry_46 : decode b_MO_carry 46 = .ok (.iaload, 1) := by decide +kernel
theorem d_MO_carry_47 : decode b_MO_carry 47 = .ok (.istore 7, 2) := by decide +kernel
theorem d_MO_carry_49 : decode b_MO_carry 49 = .ok (.aload_n 0, 1) := by decide +kernel
theorem d_MO_carry_50 : decode b_MO_carry 50 = .ok (.getfield 131, 3) := by decide +kernel
theorem d_MO_carry_53 : decode b_MO_carry 53 = .ok (.iload_n 3, 1) := by decide +kernel
theorem d_MO_carry_54 : decode b_MO_carry 54 = .ok (.iaload, 1) := by decide +kernel
theorem d_MO_carry_55 : decode b_MO_carry 55 = .ok (.istore 8, 2) := by decide +kernel
theorem d_MO_carry_57 : decode b_MO_carry 57 = .ok (.aload_n 0, 1) := by decide +kernel
theorem d_MO_carry_58 : decode b_MO_carry 58 = .ok (.getfield 134, 3) := by decide +kernel
theorem d_MO_carry_61 : decode b_MO_carry 61 = .ok (.iload_n 3, 1) := by decide +kernel
theorem d_MO_carry_62 : decode b_MO_carry 62 = .ok (.iaload, 1) := by decide +kernel
theorem d_MO_carry_63 : decode b_MO_carry 63 = .ok (.istore 9, 2) := by decide +kernel
theorem d_MO_carry_65 : decode b_MO_carry 65 = .ok (.aload_n 0, 1) := by decide +kernel
theorem d_MO_carry_66 : decode b_MO_carry 66 = .ok (.getfield 137, 3) := by decide +kernel
theorem d_MO_carry_69 : decode b_MO_carry 69 = .ok (.iload_n 3, 1) := by decide +kernel
theorem d_MO_carry_70 : decode b_MO_carry 70 = .ok (.iaload, 1) := by decide +kernel
theorem d_MO_carry_71 : decode b_MO_carry 71 = .ok (.istore 10, 2) := by decide +kernel
theorem d_MO_carry_73 : decode b_MO_carry 73 = .ok (.iload_n 2, 1) := by decide +kernel
theorem d_MO_carry_74 : decode b_MO_carry 74 = .ok (.ifCond .ne 8, 3) := by decide +kernel
theorem d_MO_carry_77 : decode b_MO_carry 77 = .ok (.aload_n 0, 1) := by decide +kernel
theorem d_MO_carry_78 : decode b_MO_carry 78 = .ok (.iload_n 3, 1) := by decide +kernel
theorem d_MO_carry_79 : decode b_MO_carry 79 = .ok (.invokevirtual 265, 3) := by decide +kernel
theorem d_MO_carry_82 : decode b_MO_carry 82 = .ok (.iload 7, 2) := by decide +kernel
theorem d_MO_carry_84 : decode b_MO_carry 84 = .ok (.aload_n 0, 1) := by decide +kernel
theorem d_MO_carry_85 : decode b_MO_carry 85 = .ok (.getfield 19, 3) := by decide +kernel
theorem d_MO_carry_88 : decode b_MO_carry 88 = .ok (.iload 5, 2) := by decide +kernel
theorem d_MO_carry_90 : decode b_MO_carry 90 = .ok (.iaload, 1) := by decide +kernel
theorem d_MO_carry_91 : decode b_MO_carry 91 = .ok (.if_icmp .ne 7, 3) := by decide +kernel
theorem d_MO_carry_94 : decode b_MO_carry 94 = .ok (.iconst 1, 1) := by decide +kernel
theorem d_MO_carry_95 : decode b_MO_carry 95 = .ok (.goto 4, 3) := by decide +kernel
theorem d_MO_carry_98 : decode b_MO_carry 98 = .ok (.iconst 0, 1) := by decide +kernel
theorem d_MO_carry_99 : decode b_MO_carry 99 = .ok (.istore 11, 2) := by decide +kernel
theorem d_MO_carry_101 : decode b_MO_carry 101 = .ok (.iload 4, 2) := by decide +kernel
theorem d_MO_carry_103 : decode b_MO_carry 103 = .ok (.tableswitch 182 1 5 #[33, 61, 85, 114, 169], 33) := by decide +kernel
theorem d_MO_carry_136 : decode b_MO_carry 136 = .ok (.iload 11, 2) := by decide +kernel
theorem d_MO_carry_138 : decode b_MO_carry 138 = .ok (.ifCond .eq 158, 3) := by decide +kernel
theorem d_MO_carry_141 : decode b_MO_carry 141 = .ok (.aload_n 0, 1) := by decide +kernel
theorem d_MO_carry_142 : decode b_MO_carry 142 = .ok (.iload_n 1, 1) := by decide +kernel
theorem d_MO_carry_143 : decode b_MO_carry 143 = .ok (.iconst 4, 1) := by decide +kernel
theorem d_MO_carry_144 : decode b_MO_carry 144 = .ok (.iload 5, 2) := by decide +kernel
theorem d_MO_carry_146 : decode b_MO_carry 146 = .ok (.imul, 1) := by decide +kernel
theorem d_MO_carry_147 : decode b_MO_carry 147 = .ok (.iload 6, 2) := by decide +kernel
theorem d_MO_carry_149 : decode b_MO_carry 149 = .ok (.iadd, 1) := by decide +kernel
theorem d_MO_carry_150 : decode b_MO_carry 150 = .ok (.iload 7, 2) := by decide +kernel
theorem d_MO_carry_152 : decode b_MO_carry 152 = .ok (.iload 8, 2) := by decide +kernel
theorem d_MO_carry_154 : decode b_MO_carry 154 = .ok (.iload 9, 2) := by decide +kernel
theorem d_MO_carry_156 : decode b_MO_carry 156 = .ok (.iload 10, 2) := by decide +kernel
theorem d_MO_carry_158 : decode b_MO_carry 158 = .ok (.invokevirtual 268, 3) := by decide +kernel
theorem d_MO_carry_161 : decode b_MO_carry 161 = .ok (.goto 135, 3) := by decide +kernel
theorem d_MO_carry_164 : decode b_MO_carry 164 = .ok (.iload 11, 2) := by decide +kernel
theorem d_MO_carry_166 : decode b_MO_carry 166 = .ok (.ifCond .eq 130, 3) := by decide +kernel
theorem d_MO_carry_169 : decode b_MO_carry 169 = .ok (.aload_n 0, 1) := by decide +kernel
theorem d_MO_carry_170 : decode b_MO_carry 170 = .ok (.iload_n 1, 1) := by decide +kernel
theorem d_MO_carry_171 : decode b_MO_carry 171 = .ok (.iload 5, 2) := by decide +kernel
theorem d_MO_carry_173 : decode b_MO_carry 173 = .ok (.iconst 4, 1) := by decide +kernel
theorem d_MO_carry_174 : decode b_MO_carry 174 = .ok (.iload 5, 2) := by decide +kernel
theorem d_MO_carry_176 : decode b_MO_carry 176 = .ok (.imul, 1) := by decide +kernel
theorem d_MO_carry_177 : decode b_MO_carry 177 = .ok (.iload 6, 2) := by decide +kernel
theorem d_MO_carry_179 : decode b_MO_carry 179 = .ok (.iadd, 1) := by decide +kernel
theorem d_MO_carry_180 : decode b_MO_carry 180 = .ok (.iload 8, 2) := by decide +kernel
theorem d_MO_carry_182 : decode b_MO_carry 182 = .ok (.invokevirtual 272, 3) := by decide +kernel
theorem d_MO_carry_185 : decode b_MO_carry 185 = .ok (.goto 111, 3) := by decide +kernel
theorem d_MO_carry_188 : decode b_MO_carry 188 = .ok (.aload_n 0, 1) := by decide +kernel
theorem d_MO_carry_189 : decode b_MO_carry 189 = .ok (.getfield 53, 3) := by decide +kernel
theorem d_MO_carry_192 : decode b_MO_carry 192 = .ok (.iload 5, 2) := by decide +kernel
theorem d_MO_carry_194 : decode b_MO_carry 194 = .ok (.iload 11, 2) := by decide +kernel
theorem d_MO_carry_196 : decode b_MO_carry 196 = .ok (.ifCond .eq 10, 3) := by decide +kernel
theorem d_MO_carry_199 : decode b_MO_carry 199 = .ok (.aload_n 0, 1) := by decide +kernel
theorem d_MO_carry_200 : decode b_MO_carry 200 = .ok (.getfield 223, 3) := by decide +kernel
theorem d_MO_carry_203 : decode b_MO_carry 203 = .ok (.goto 10, 3) := by decide +kernel
theorem d_MO_carry_206 : decode b_MO_carry 206 = .ok (.aload_n 0, 1) := by decide +kernel
theorem d_MO_carry_207 : decode b_MO_carry 207 = .ok (.getfield 53, 3) := by decide +kernel
theorem d_MO_carry_210 : decode b_MO_carry 210 = .ok (.iload 5, 2) := by decide +kernel
theorem d_MO_carry_212 : decode b_MO_carry 212 = .ok (.iaload, 1) := by decide +kernel
theorem d_MO_carry_213 : decode b_MO_carry 213 = .ok (.iastore, 1) := by decide +kernel
theorem d_MO_carry_214 : decode b_MO_carry 214 = .ok (.goto 82, 3) := by decide +kernel
theorem d_MO_carry_217 : decode b_MO_carry 217 = .ok (.aload_n 0, 1) := by decide +kernel
theorem d_MO_carry_218 : decode b_MO_carry 218 = .ok (.getfield 101, 3) := by decide +kernel
theorem d_MO_carry_221 : decode b_MO_carry 221 = .ok (.iconst 4, 1) := by decide +kernel
theorem d_MO_carry_222 : decode b_MO_carry 222 = .ok (.iload 5, 2) := by decide +kernel
theorem d_MO_carry_224 : decode b_MO_carry 224 = .ok (.imul, 1) := by decide +kernel
theorem d_MO_carry_225 : decode b_MO_carry 225 = .ok (.iload 6, 2) := by decide +kernel
theorem d_MO_carry_227 : decode b_MO_carry 227 = .ok (.iadd, 1) := by decide +kernel
theorem d_MO_carry_228 : decode b_MO_carry 228 = .ok (.aload_n 0, 1) := by decide +kernel
theorem d_MO_carry_229 : decode b_MO_carry 229 = .ok (.getfield 101, 3) := by decide +kernel
theorem d_MO_carry_232 : decode b_MO_carry 232 = .ok (.iconst 4, 1) := by decide +kernel
theorem d_MO_carry_233 : decode b_MO_carry 233 = .ok (.iload 5, 2) := by decide +kernel
theorem d_MO_carry_235 : decode b_MO_carry 235 = .ok (.imul, 1) := by decide +kernel
theorem d_MO_carry_236 : decode b_MO_carry 236 = .ok (.iload 6, 2) := by decide +kernel
theorem d_MO_carry_238 : decode b_MO_carry 238 = .ok (.iadd, 1) := by decide +kernel
theorem d_MO_carry_239 : decode b_MO_carry 239 = .ok (.baload, 1) := by decide +kernel
theorem d_MO_carry_240 : decode b_MO_carry 240 = .ok (.ifCond .ne 23, 3) := by decide +kernel
theorem d_MO_carry_243 : decode b_MO_carry 243 = .ok (.iload 11, 2) := by decide +kernel
theorem d_MO_carry_245 : decode b_MO_carry 245 = .ok (.ifCond .eq 22, 3) := by decide +kernel
theorem d_MO_carry_248 : decode b_MO_carry 248 = .ok (.aload_n 0, 1) := by decide +kernel
theorem d_MO_carry_249 : decode b_MO_carry 249 = .ok (.getfield 98, 3) := by decide +kernel
theorem d_MO_carry_252 : decode b_MO_carry 252 = .ok (.iconst 4, 1) := by decide +kernel
theorem d_MO_carry_253 : decode b_MO_carry 253 = .ok (.iload 5, 2) := by decide +kernel
theorem d_MO_carry_255 : decode b_MO_carry 255 = .ok (.imul, 1) := by decide +kernel
theorem d_MO_carry_256 : decode b_MO_carry 256 = .ok (.iload 6, 2) := by decide +kernel
theorem d_MO_carry_258 : decode b_MO_carry 258 = .ok (.iadd, 1) := by decide +kernel
theorem d_MO_carry_259 : decode b_MO_carry 259 = .ok (.baload, 1) := by decide +kernel
theorem d_MO_carry_260 : decode b_MO_carry 260 = .ok (.ifCond .eq 7, 3) := by decide +kernel
theorem d_MO_carry_263 : decode b_MO_carry 263 = .ok (.iconst 1, 1) := by decide +kernel
theorem d_MO_carry_264 : decode b_MO_carry 264 = .ok (.goto 4, 3) := by decide +kernel
theorem d_MO_carry_267 : decode b_MO_carry 267 = .ok (.iconst 0, 1) := by decide +kernel
theorem d_MO_carry_268 : decode b_MO_carry 268 = .ok (.bastore, 1) := by decide +kernel
theorem d_MO_carry_269 : decode b_MO_carry 269 = .ok (.goto 27, 3) := by decide +kernel
theorem d_MO_carry_272 : decode b_MO_carry 272 = .ok (.aload_n 0, 1) := by decide +kernel
theorem d_MO_carry_273 : decode b_MO_carry 273 = .ok (.iload 5, 2) := by decide +kernel
theorem d_MO_carry_275 : decode b_MO_carry 275 = .ok (.iload 6, 2) := by decide +kernel
theorem d_MO_carry_277 : decode b_MO_carry 277 = .ok (.iload 7, 2) := by decide +kernel
theorem d_MO_carry_279 : decode b_MO_carry 279 = .ok (.invokevirtual 276, 3) := by decide +kernel
theorem d_MO_carry_282 : decode b_MO_carry 282 = .ok (.goto 14, 3) := by decide +kernel
theorem d_MO_carry_285 : decode b_MO_carry 285 = .ok (.aload_n 0, 1) := by decide +kernel
theorem d_MO_carry_286 : decode b_MO_carry 286 = .ok (.getfield 173, 3) := by decide +kernel
theorem d_MO_carry_289 : decode b_MO_carry 289 = .ok (.iload 6, 2) := by decide +kernel
theorem d_MO_carry_291 : decode b_MO_carry 291 = .ok (.iconst 1, 1) := by decide +kernel
theorem d_MO_carry_292 : decode b_MO_carry 292 = .ok (.iload 8, 2) := by decide +kernel
theorem d_MO_carry_294 : decode b_MO_carry 294 = .ok (.iadd, 1) := by decide +kernel
theorem d_MO_carry_295 : decode b_MO_carry 295 = .ok (.iastore, 1) := by decide +kernel
theorem d_MO_carry_296 : decode b_MO_carry 296 = .ok (.aload_n 0, 1) := by decide +kernel
theorem d_MO_carry_297 : decode b_MO_carry 297 = .ok (.invokevirtual 211, 3) := by decide +kernel
theorem d_MO_carry_300 : decode b_MO_carry 300 = .ok (.iconst 1, 1) := by decide +kernel
theorem d_MO_carry_301 : decode b_MO_carry 301 = .ok (.ireturn, 1) := by decide +kernel
theorem d_MO_drop_0 : decode b_MO_drop 0 = .ok (.aload_n 0, 1) := by decide +kernel
theorem d_MO_drop_1 : decode b_MO_drop 1 = .ok (.iconst 0, 1) := by decide +kernel
theorem d_MO_drop_2 : decode b_MO_drop 2 = .ok (.putfield 181, 3) := by decide +kernel
theorem d_MO_drop_5 : decode b_MO_drop 5 = .ok (.aload_n 0, 1) := by decide +kernel
theorem d_MO_drop_6 : decode b_MO_drop 6 = .ok (.iload_n 1, 1) := by decide +kernel
theorem d_MO_drop_7 : decode b_MO_drop 7 = .ok (.invokevirtual 262, 3) := by decide +kernel
theorem d_MO_drop_10 : decode b_MO_drop 10 = .ok (.istore_n 2, 1) := by decide +kernel
theorem d_MO_drop_11 : decode b_MO_drop 11 = .ok (.iload_n 2, 1) := by decide +kernel
theorem d_MO_drop_12 : decode b_MO_drop 12 = .ok (.ifCond .ge 5, 3) := by decide +kernel
theorem d_MO_drop_15 : decode b_MO_drop 15 = .ok (.iconst 0, 1) := by decide +kernel
theorem d_MO_drop_16 : decode b_MO_drop 16 = .ok (.ireturn, 1) := by decide +kernel
theorem d_MO_drop_17 : decode b_MO_drop 17 = .ok (.aload_n 0, 1) := by decide +kernel
theorem d_MO_drop_18 : decode b_MO_drop 18 = .ok (.iload_n 2, 1) := by decide +kernel
theorem d_MO_drop_19 : decode b_MO_drop 19 = .ok (.invokevirtual 265, 3) := by decide +kernel
theorem d_MO_drop_22 : decode b_MO_drop 22 = .ok (.iconst 1, 1) := by decide +kernel
theorem d_MO_drop_23 : decode b_MO_drop 23 = .ok (.ireturn, 1) := by decide +kernel
theorem d_MO_bind_0 : decode b_MO_bind 0 = .ok (.aload_n 0, 1) := by decide +kernel
theorem d_MO_bind_1 : decode b_MO_bind 1 = .ok (.iload_n 1, 1) := by decide +kernel
theorem d_MO_bind_2 : decode b_MO_bind 2 = .ok (.invokestatic 194, 3) := by decide +kernel
theorem d_MO_bind_5 : decode b_MO_bind 5 = .ok (.ifCond .eq 17, 3) := by decide +kernel
theorem d_MO_bind_8 : decode b_MO_bind 8 = .ok (.iload_n 2, 1) := by decide +kernel
theorem d_MO_bind_9 : decode b_MO_bind 9 = .ok (.ifCond .lt 13, 3) := by decide +kernel
theorem d_MO_bind_12 : decode b_MO_bind 12 = .ok (.iload_n 2, 1) := by decide +kernel
theorem d_MO_bind_13 : decode b_MO_bind 13 = .ok (.bipush 16, 2) := by decide +kernel
theorem d_MO_bind_15 : decode b_MO_bind 15 = .ok (.if_icmp .ge 7, 3) := by decide +kernel
theorem d_MO_bind_18 : decode b_MO_bind 18 = .ok (.iconst 0, 1) := by decide +kernel
theorem d_MO_bind_19 : decode b_MO_bind 19 = .ok (.goto 4, 3) := by decide +kernel
theorem d_MO_bind_22 : decode b_MO_bind 22 = .ok (.iconst 1, 1) := by decide +kernel
theorem d_MO_bind_23 : decode b_MO_bind 23 = .ok (.putfield 181, 3) := by decide +kernel
theorem d_MO_bind_26 : decode b_MO_bind 26 = .ok (.aload_n 0, 1) := by decide +kernel
theorem d_MO_bind_27 : decode b_MO_bind 27 = .ok (.getfield 181, 3) := by decide +kernel
theorem d_MO_bind_30 : decode b_MO_bind 30 = .ok (.ifCond .le 5, 3) := by decide +kernel
theorem d_MO_bind_33 : decode b_MO_bind 33 = .ok (.iconst 0, 1) := by decide +kernel
theorem d_MO_bind_34 : decode b_MO_bind 34 = .ok (.ireturn, 1) := by decide +kernel
theorem d_MO_bind_35 : decode b_MO_bind 35 = .ok (.iconst (-1), 1) := by decide +kernel
theorem d_MO_bind_36 : decode b_MO_bind 36 = .ok (.istore_n 3, 1) := by decide +kernel
theorem d_MO_bind_37 : decode b_MO_bind 37 = .ok (.bipush 31, 2) := by decide +kernel
theorem d_MO_bind_39 : decode b_MO_bind 39 = .ok (.istore 4, 2) := by decide +kernel
theorem d_MO_bind_41 : decode b_MO_bind 41 = .ok (.iload 4, 2) := by decide +kernel
theorem d_MO_bind_43 : decode b_MO_bind 43 = .ok (.ifCond .lt 79, 3) := by decide +kernel
theorem d_MO_bind_46 : decode b_MO_bind 46 = .ok (.iload 4, 2) := by decide +kernel
theorem d_MO_bind_48 : decode b_MO_bind 48 = .ok (.iconst 4, 1) := by decide +kernel
theorem d_MO_bind_49 : decode b_MO_bind 49 = .ok (.idiv, 1) := by decide +kernel
theorem d_MO_bind_50 : decode b_MO_bind 50 = .ok (.istore 5, 2) := by decide +kernel
theorem d_MO_bind_52 : decode b_MO_bind 52 = .ok (.aload_n 0, 1) := by decide +kernel
theorem d_MO_bind_53 : decode b_MO_bind 53 = .ok (.getfield 13, 3) := by decide +kernel
theorem d_MO_bind_56 : decode b_MO_bind 56 = .ok (.iload 5, 2) := by decide +kernel
theorem d_MO_bind_58 : decode b_MO_bind 58 = .ok (.iaload, 1) := by decide +kernel
theorem d_MO_bind_59 : decode b_MO_bind 59 = .ok (.iconst 2, 1) := by decide +kernel
theorem d_MO_bind_60 : decode b_MO_bind 60 = .ok (.if_icmp .ne 54, 3) := by decide +kernel
theorem d_MO_bind_63 : decode b_MO_bind 63 = .ok (.aload_n 0, 1) := by decide +kernel
theorem d_MO_bind_64 : decode b_MO_bind 64 = .ok (.getfield 25, 3) := by decide +kernel
theorem d_MO_bind_67 : decode b_MO_bind 67 = .ok (.iload 5, 2) := by decide +kernel
theorem d_MO_bind_69 : decode b_MO_bind 69 = .ok (.iaload, 1) := by decide +kernel
theorem d_MO_bind_70 : decode b_MO_bind 70 = .ok (.ifCond .eq 44, 3) := by decide +kernel
theorem d_MO_bind_73 : decode b_MO_bind 73 = .ok (.aload_n 0, 1) := by decide +kernel
theorem d_MO_bind_74 : decode b_MO_bind 74 = .ok (.getfield 16, 3) := by decide +kernel
theorem d_MO_bind_77 : decode b_MO_bind 77 = .ok (.iload 5, 2) := by decide +kernel
theorem d_MO_bind_79 : decode b_MO_bind 79 = .ok (.iaload, 1) := by decide +kernel
theorem d_MO_bind_80 : decode b_MO_bind 80 = .ok (.iload_n 1, 1) := by decide +kernel
theorem d_MO_bind_81 : decode b_MO_bind 81 = .ok (.if_icmp .ne 33, 3) := by decide +kernel
theorem d_MO_bind_84 : decode b_MO_bind 84 = .ok (.iload 4, 2) := by decide +kernel
theorem d_MO_bind_86 : decode b_MO_bind 86 = .ok (.iconst 4, 1) := by decide +kernel
theorem d_MO_bind_87 : decode b_MO_bind 87 = .ok (.irem, 1) := by decide +kernel
theorem d_MO_bind_88 : decode b_MO_bind 88 = .ok (.aload_n 0, 1) := by decide +kernel
theorem d_MO_bind_89 : decode b_MO_bind 89 = .ok (.getfield 22, 3) := by decide +kernel
theorem d_MO_bind_92 : decode b_MO_bind 92 = .ok (.iload 5, 2) := by decide +kernel
theorem d_MO_bind_94 : decode b_MO_bind 94 = .ok (.iaload, 1) := by decide +kernel
theorem d_MO_bind_95 : decode b_MO_bind 95 = .ok (.if_icmp .ge 19, 3) := by decide +kernel
theorem d_MO_bind_98 : decode b_MO_bind 98 = .ok (.aload_n 0, 1) := by decide +kernel
theorem d_MO_bind_99 : decode b_MO_bind 99 = .ok (.getfield 56, 3) := by decide +kernel
theorem d_MO_bind_102 : decode b_MO_bind 102 = .ok (.iload 4, 2) := by decide +kernel
theorem d_MO_bind_104 : decode b_MO_bind 104 = .ok (.iaload, 1) := by decide +kernel
theorem d_MO_bind_105 : decode b_MO_bind 105 = .ok (.iload_n 2, 1) := by decide +kernel
theorem d_MO_bind_106 : decode b_MO_bind 106 = .ok (.if_icmp .ne 8, 3) := by decide +kernel
theorem d_MO_bind_109 : decode b_MO_bind 109 = .ok (.iload 4, 2) := by decide +kernel
theorem d_MO_bind_111 : decode b_MO_bind 111 = .ok (.goto 4, 3) := by decide +kernel
theorem d_MO_bind_114 : decode b_MO_bind 114 = .ok (.iload_n 3, 1) := by decide +kernel
theorem d_MO_bind_115 : decode b_MO_bind 115 = .ok (.istore_n 3, 1) := by decide +kernel
theorem d_MO_bind_116 : decode b_MO_bind 116 = .ok (.iinc 4 (-1), 3) := by decide +kernel
theorem d_MO_bind_119 : decode b_MO_bind 119 = .ok (.goto (-78), 3) := by decide +kernel
theorem d_MO_bind_122 : decode b_MO_bind 122 = .ok (.aload_n 0, 1) := by decide +kernel
theorem d_MO_bind_123 : decode b_MO_bind 123 = .ok (.aload_n 0, 1) := by decide +kernel
theorem d_MO_bind_124 : decode b_MO_bind 124 = .ok (.getfield 255, 3) := by decide +kernel
theorem d_MO_bind_127 : decode b_MO_bind 127 = .ok (.bipush 16, 2) := by decide +kernel
theorem d_MO_bind_129 : decode b_MO_bind 129 = .ok (.if_icmp .eq 7, 3) := by decide +kernel
theorem d_MO_bind_132 : decode b_MO_bind 132 = .ok (.iload_n 3, 1) := by decide +kernel
theorem d_MO_bind_133 : decode b_MO_bind 133 = .ok (.ifCond .ge 7, 3) := by decide +kernel
theorem d_MO_bind_136 : decode b_MO_bind 136 = .ok (.iconst 2, 1) := by decide +kernel
theorem d_MO_bind_137 : decode b_MO_bind 137 = .ok (.goto 4, 3) := by decide +kernel
theorem d_MO_bind_140 : decode b_MO_bind 140 = .ok (.iconst 0, 1) := by decide +kernel
theorem d_MO_bind_141 : decode b_MO_bind 141 = .ok (.putfield 181, 3) := by decide +kernel
theorem d_MO_bind_144 : decode b_MO_bind 144 = .ok (.aload_n 0, 1) := by decide +kernel
theorem d_MO_bind_145 : decode b_MO_bind 145 = .ok (.getfield 181, 3) := by decide +kernel
theorem d_MO_bind_148 : decode b_MO_bind 148 = .ok (.ifCond .le 5, 3) := by decide +kernel
theorem d_MO_bind_151 : decode b_MO_bind 151 = .ok (.iconst 0, 1) := by decide +kernel
theorem d_MO_bind_152 : decode b_MO_bind 152 = .ok (.ireturn, 1) := by decide +kernel
theorem d_MO_bind_153 : decode b_MO_bind 153 = .ok (.aload_n 0, 1) := by decide +kernel
theorem d_MO_bind_154 : decode b_MO_bind 154 = .ok (.getfield 140, 3) := by decide +kernel
theorem d_MO_bind_157 : decode b_MO_bind 157 = .ok (.aload_n 0, 1) := by decide +kernel
theorem d_MO_bind_158 : decode b_MO_bind 158 = .ok (.getfield 255, 3) := by decide +kernel
theorem d_MO_bind_161 : decode b_MO_bind 161 = .ok (.iload_n 3, 1) := by decide +kernel
theorem d_MO_bind_162 : decode b_MO_bind 162 = .ok (.iastore, 1) := by decide +kernel
theorem d_MO_bind_163 : decode b_MO_bind 163 = .ok (.aload_n 0, 1) := by decide +kernel
theorem d_MO_bind_164 : decode b_MO_bind 164 = .ok (.getfield 143, 3) := by decide +kernel
theorem d_MO_bind_167 : decode b_MO_bind 167 = .ok (.aload_n 0, 1) := by decide +kernel
theorem d_MO_bind_168 : decode b_MO_bind 168 = .ok (.getfield 255, 3) := by decide +kernel
theorem d_MO_bind_171 : decode b_MO_bind 171 = .ok (.aload_n 0, 1) := by decide +kernel
theorem d_MO_bind_172 : decode b_MO_bind 172 = .ok (.getfield 19, 3) := by decide +kernel
theorem d_MO_bind_175 : decode b_MO_bind 175 = .ok (.iload_n 3, 1) := by decide +kernel
theorem d_MO_bind_176 : decode b_MO_bind 176 = .ok (.iconst 4, 1) := by decide +kernel
theorem d_MO_bind_177 : decode b_MO_bind 177 = .ok (.idiv, 1) := by decide +kernel
theorem d_MO_bind_178 : decode b_MO_bind 178 = .ok (.iaload, 1) := by decide +kernel
theorem d_MO_bind_179 : decode b_MO_bind 179 = .ok (.iastore, 1) := by decide +kernel
theorem d_MO_bind_180 : decode b_MO_bind 180 = .ok (.aload_n 0, 1) := by decide +kernel
theorem d_MO_bind_181 : decode b_MO_bind 181 = .ok (.getfield 146, 3) := by decide +kernel
theorem d_MO_bind_184 : decode b_MO_bind 184 = .ok (.aload_n 0, 1) := by decide +kernel
theorem d_MO_bind_185 : decode b_MO_bind 185 = .ok (.getfield 255, 3) := by decide +kernel
theorem d_MO_bind_188 : decode b_MO_bind 188 = .ok (.aload_n 0, 1) := by decide +kernel
theorem d_MO_bind_189 : decode b_MO_bind 189 = .ok (.getfield 25, 3) := by decide +kernel
theorem d_MO_bind_192 : decode b_MO_bind 192 = .ok (.iload_n 3, 1) := by decide +kernel
theorem d_MO_bind_193 : decode b_MO_bind 193 = .ok (.iconst 4, 1) := by decide +kernel
theorem d_MO_bind_194 : decode b_MO_bind 194 = .ok (.idiv, 1) := by decide +kernel
theorem d_MO_bind_195 : decode b_MO_bind 195 = .ok (.iaload, 1) := by decide +kernel
theorem d_MO_bind_196 : decode b_MO_bind 196 = .ok (.iastore, 1) := by decide +kernel
theorem d_MO_bind_197 : decode b_MO_bind 197 = .ok (.aload_n 0, 1) := by decide +kernel
theorem d_MO_bind_198 : decode b_MO_bind 198 = .ok (.getfield 149, 3) := by decide +kernel
theorem d_MO_bind_201 : decode b_MO_bind 201 = .ok (.aload_n 0, 1) := by decide +kernel
theorem d_MO_bind_202 : decode b_MO_bind 202 = .ok (.getfield 255, 3) := by decide +kernel
theorem d_MO_bind_205 : decode b_MO_bind 205 = .ok (.iconst (-1), 1) := by decide +kernel
theorem d_MO_bind_206 : decode b_MO_bind 206 = .ok (.iastore, 1) := by decide +kernel
theorem d_MO_bind_207 : decode b_MO_bind 207 = .ok (.aload_n 0, 1) := by decide +kernel
theorem d_MO_bind_208 : decode b_MO_bind 208 = .ok (.dup, 1) := by decide +kernel
theorem d_MO_bind_209 : decode b_MO_bind 209 = .ok (.getfield 255, 3) := by decide +kernel
theorem d_MO_bind_212 : decode b_MO_bind 212 = .ok (.iconst 1, 1) := by decide +kernel
theorem d_MO_bind_213 : decode b_MO_bind 213 = .ok (.iadd, 1) := by decide +kernel
theorem d_MO_bind_214 : decode b_MO_bind 214 = .ok (.putfield 255, 3) := by decide +kernel
theorem d_MO_bind_217 : decode b_MO_bind 217 = .ok (.aload_n 0, 1) := by decide +kernel
theorem d_MO_bind_218 : decode b_MO_bind 218 = .ok (.getfield 255, 3) := by decide +kernel
theorem d_MO_bind_221 : decode b_MO_bind 221 = .ok (.iconst 1, 1) := by decide +kernel
theorem d_MO_bind_222 : decode b_MO_bind 222 = .ok (.isub, 1) := by decide +kernel
theorem d_MO_bind_223 : decode b_MO_bind 223 = .ok (.ireturn, 1) := by decide +kernel
theorem d_MO_shown_0 : decode b_MO_shown 0 = .ok (.iload_n 1, 1) := by decide +kernel
theorem d_MO_shown_1 : decode b_MO_shown 1 = .ok (.ifCond .lt 24, 3) := by decide +kernel
theorem d_MO_shown_4 : decode b_MO_shown 4 = .ok (.iload_n 1, 1) := by decide +kernel
theorem d_MO_shown_5 : decode b_MO_shown 5 = .ok (.aload_n 0, 1) := by decide +kernel
theorem d_MO_shown_6 : decode b_MO_shown 6 = .ok (.getfield 255, 3) := by decide +kernel
theorem d_MO_shown_9 : decode b_MO_shown 9 = .ok (.if_icmp .ge 16, 3) := by decide +kernel
theorem d_MO_shown_12 : decode b_MO_shown 12 = .ok (.iload_n 2, 1) := by decide +kernel
theorem d_MO_shown_13 : decode b_MO_shown 13 = .ok (.ifCond .lt 12, 3) := by decide +kernel
theorem d_MO_shown_16 : decode b_MO_shown 16 = .ok (.iload_n 2, 1) := by decide +kernel
theorem d_MO_shown_17 : decode b_MO_shown 17 = .ok (.iconst 4, 1) := by decide +kernel
theorem d_MO_shown_18 : decode b_MO_shown 18 = .ok (.if_icmp .ge 7, 3) := by decide +kernel
theorem d_MO_shown_21 : decode b_MO_shown 21 = .ok (.iconst 1, 1) := by decide +kernel
theorem d_MO_shown_22 : decode b_MO_shown 22 = .ok (.goto 4, 3) := by decide +kernel
theorem d_MO_shown_25 : decode b_MO_shown 25 = .ok (.iconst 0, 1) := by decide +kernel
theorem d_MO_shown_26 : decode b_MO_shown 26 = .ok (.istore_n 3, 1) := by decide +kernel
theorem d_MO_shown_27 : decode b_MO_shown 27 = .ok (.aload_n 0, 1) := by decide +kernel
theorem d_MO_shown_28 : decode b_MO_shown 28 = .ok (.iload_n 3, 1) := by decide +kernel
theorem d_MO_shown_29 : decode b_MO_shown 29 = .ok (.ifCond .ne 7, 3) := by decide +kernel
theorem d_MO_shown_32 : decode b_MO_shown 32 = .ok (.iconst 1, 1) := by decide +kernel
theorem d_MO_shown_33 : decode b_MO_shown 33 = .ok (.goto 40, 3) := by decide +kernel
theorem d_MO_shown_36 : decode b_MO_shown 36 = .ok (.iload_n 2, 1) := by decide +kernel
theorem d_MO_shown_37 : decode b_MO_shown 37 = .ok (.iconst 2, 1) := by decide +kernel
theorem d_MO_shown_38 : decode b_MO_shown 38 = .ok (.if_icmp .ge 34, 3) := by decide +kernel
theorem d_MO_shown_41 : decode b_MO_shown 41 = .ok (.aload_n 0, 1) := by decide +kernel
theorem d_MO_shown_42 : decode b_MO_shown 42 = .ok (.getfield 149, 3) := by decide +kernel
theorem d_MO_shown_45 : decode b_MO_shown 45 = .ok (.iload_n 1, 1) := by decide +kernel
theorem d_MO_shown_46 : decode b_MO_shown 46 = .ok (.iaload, 1) := by decide +kernel
theorem d_MO_shown_47 : decode b_MO_shown 47 = .ok (.iconst (-1), 1) := by decide +kernel
theorem d_MO_shown_48 : decode b_MO_shown 48 = .ok (.if_icmp .eq 20, 3) := by decide +kernel
theorem d_MO_shown_51 : decode b_MO_shown 51 = .ok (.aload_n 0, 1) := by decide +kernel
theorem d_MO_shown_52 : decode b_MO_shown 52 = .ok (.getfield 223, 3) := by decide +kernel
theorem d_MO_shown_55 : decode b_MO_shown 55 = .ok (.aload_n 0, 1) := by decide +kernel
theorem d_MO_shown_56 : decode b_MO_shown 56 = .ok (.getfield 158, 3) := by decide +kernel
theorem d_MO_shown_59 : decode b_MO_shown 59 = .ok (.iload_n 1, 1) := by decide +kernel
theorem d_MO_shown_60 : decode b_MO_shown 60 = .ok (.iaload, 1) := by decide +kernel
theorem d_MO_shown_61 : decode b_MO_shown 61 = .ok (.isub, 1) := by decide +kernel
theorem d_MO_shown_62 : decode b_MO_shown 62 = .ok (.sipush 3000, 3) := by decide +kernel
theorem d_MO_shown_65 : decode b_MO_shown 65 = .ok (.if_icmp .lt 7, 3) := by decide +kernel
theorem d_MO_shown_68 : decode b_MO_shown 68 = .ok (.iconst 2, 1) := by decide +kernel
theorem d_MO_shown_69 : decode b_MO_shown 69 = .ok (.goto 4, 3) := by decide +kernel
theorem d_MO_shown_72 : decode b_MO_shown 72 = .ok (.iconst 0, 1) := by decide +kernel
theorem d_MO_shown_73 : decode b_MO_shown 73 = .ok (.putfield 181, 3) := by decide +kernel
theorem d_MO_shown_76 : decode b_MO_shown 76 = .ok (.aload_n 0, 1) := by decide +kernel
theorem d_MO_shown_77 : decode b_MO_shown 77 = .ok (.getfield 181, 3) := by decide +kernel
theorem d_MO_shown_80 : decode b_MO_shown 80 = .ok (.ifCond .le 5, 3) := by decide +kernel
theorem d_MO_shown_83 : decode b_MO_shown 83 = .ok (.iconst 0, 1) := by decide +kernel
theorem d_MO_shown_84 : decode b_MO_shown 84 = .ok (.ireturn, 1) := by decide +kernel
theorem d_MO_shown_85 : decode b_MO_shown 85 = .ok (.iload_n 2, 1) := by decide +kernel
theorem d_MO_shown_86 : decode b_MO_shown 86 = .ok (.ifCond .ne 12, 3) := by decide +kernel
theorem d_MO_shown_89 : decode b_MO_shown 89 = .ok (.aload_n 0, 1) := by decide +kernel
theorem d_MO_shown_90 : decode b_MO_shown 90 = .ok (.getfield 152, 3) := by decide +kernel
theorem d_MO_shown_93 : decode b_MO_shown 93 = .ok (.iload_n 1, 1) := by decide +kernel
theorem d_MO_shown_94 : decode b_MO_shown 94 = .ok (.iaload, 1) := by decide +kernel
theorem d_MO_shown_95 : decode b_MO_shown 95 = .ok (.goto 46, 3) := by decide +kernel
theorem d_MO_shown_98 : decode b_MO_shown 98 = .ok (.iload_n 2, 1) := by decide +kernel
theorem d_MO_shown_99 : decode b_MO_shown 99 = .ok (.iconst 1, 1) := by decide +kernel
theorem d_MO_shown_100 : decode b_MO_shown 100 = .ok (.if_icmp .ne 17, 3) := by decide +kernel
theorem d_MO_shown_103 : decode b_MO_shown 103 = .ok (.aload_n 0, 1) := by decide +kernel
theorem d_MO_shown_104 : decode b_MO_shown 104 = .ok (.getfield 223, 3) := by decide +kernel
theorem d_MO_shown_107 : decode b_MO_shown 107 = .ok (.aload_n 0, 1) := by decide +kernel
theorem d_MO_shown_108 : decode b_MO_shown 108 = .ok (.getfield 155, 3) := by decide +kernel
theorem d_MO_shown_111 : decode b_MO_shown 111 = .ok (.iload_n 1, 1) := by decide +kernel
theorem d_MO_shown_112 : decode b_MO_shown 112 = .ok (.iaload, 1) := by decide +kernel
theorem d_MO_shown_113 : decode b_MO_shown 113 = .ok (.isub, 1) := by decide +kernel
theorem d_MO_shown_114 : decode b_MO_shown 114 = .ok (.goto 27, 3) := by decide +kernel
theorem d_MO_shown_117 : decode b_MO_shown 117 = .ok (.iload_n 2, 1) := by decide +kernel
theorem d_MO_shown_118 : decode b_MO_shown 118 = .ok (.iconst 2, 1) := by decide +kernel
theorem d_MO_shown_119 : decode b_MO_shown 119 = .ok (.if_icmp .ne 14, 3) := by decide +kernel
theorem d_MO_shown_122 : decode b_MO_shown 122 = .ok (.aload_n 0, 1) := by decide +kernel
theorem d_MO_shown_123 : decode b_MO_shown 123 = .ok (.getfield 140, 3) := by decide +kernel
theorem d_MO_shown_126 : decode b_MO_shown 126 = .ok (.iload_n 1, 1) := by decide +kernel
theorem d_MO_shown_127 : decode b_MO_shown 127 = .ok (.iaload, 1) := by decide +kernel
theorem d_MO_shown_128 : decode b_MO_shown 128 = .ok (.iconst 4, 1) := by decide +kernel
theorem d_MO_shown_129 : decode b_MO_shown 129 = .ok (.idiv, 1) := by decide +kernel
theorem d_MO_shown_130 : decode b_MO_shown 130 = .ok (.goto 11, 3) := by decide +kernel
theorem d_MO_shown_133 : decode b_MO_shown 133 = .ok (.aload_n 0, 1) := by decide +kernel
theorem d_MO_shown_134 : decode b_MO_shown 134 = .ok (.getfield 140, 3) := by decide +kernel
theorem d_MO_shown_137 : decode b_MO_shown 137 = .ok (.iload_n 1, 1) := by decide +kernel
theorem d_MO_shown_138 : decode b_MO_shown 138 = .ok (.iaload, 1) := by decide +kernel
theorem d_MO_shown_139 : decode b_MO_shown 139 = .ok (.iconst 4, 1) := by decide +kernel
theorem d_MO_shown_140 : decode b_MO_shown 140 = .ok (.irem, 1) := by decide +kernel
theorem d_MO_shown_141 : decode b_MO_shown 141 = .ok (.ireturn, 1) := by decide +kernel
theorem d_MO_acknowledge_0 : decode b_MO_acknowledge 0 = .ok (.aload_n 0, 1) := by decide +kernel
theorem d_MO_acknowledge_1 : decode b_MO_acknowledge 1 = .ok (.iconst 0, 1) := by decide +kernel
theorem d_MO_acknowledge_2 : decode b_MO_acknowledge 2 = .ok (.putfield 181, 3) := by decide +kernel
theorem d_MO_acknowledge_5 : decode b_MO_acknowledge 5 = .ok (.iload_n 1, 1) := by decide +kernel
theorem d_MO_acknowledge_6 : decode b_MO_acknowledge 6 = .ok (.invokestatic 185, 3) := by decide +kernel
theorem d_MO_acknowledge_9 : decode b_MO_acknowledge 9 = .ok (.ifCond .eq 26, 3) := by decide +kernel
theorem d_MO_acknowledge_12 : decode b_MO_acknowledge 12 = .ok (.iload_n 2, 1) := by decide +kernel
theorem d_MO_acknowledge_13 : decode b_MO_acknowledge 13 = .ok (.ifCond .lt 22, 3) := by decide +kernel
theorem d_MO_acknowledge_16 : decode b_MO_acknowledge 16 = .ok (.iload_n 2, 1) := by decide +kernel
theorem d_MO_acknowledge_17 : decode b_MO_acknowledge 17 = .ok (.iconst 3, 1) := by decide +kernel
theorem d_MO_acknowledge_18 : decode b_MO_acknowledge 18 = .ok (.if_icmp .gt 17, 3) := by decide +kernel
theorem d_MO_acknowledge_21 : decode b_MO_acknowledge 21 = .ok (.aload_n 0, 1) := by decide +kernel
theorem d_MO_acknowledge_22 : decode b_MO_acknowledge 22 = .ok (.getfield 107, 3) := by decide +kernel
theorem d_MO_acknowledge_25 : decode b_MO_acknowledge 25 = .ok (.iconst 4, 1) := by decide +kernel
theorem d_MO_acknowledge_26 : decode b_MO_acknowledge 26 = .ok (.iload_n 1, 1) := by decide +kernel
theorem d_MO_acknowledge_27 : decode b_MO_acknowledge 27 = .ok (.imul, 1) := by decide +kernel
theorem d_MO_acknowledge_28 : decode b_MO_acknowledge 28 = .ok (.iload_n 2, 1) := by decide +kernel
theorem d_MO_acknowledge_29 : decode b_MO_acknowledge 29 = .ok (.iadd, 1) := by decide +kernel
theorem d_MO_acknowledge_30 : decode b_MO_acknowledge 30 = .ok (.iaload, 1) := by decide +kernel
theorem d_MO_acknowledge_31 : decode b_MO_acknowledge 31 = .ok (.iconst 2, 1) := by decide +kernel
theorem d_MO_acknowledge_32 : decode b_MO_acknowledge 32 = .ok (.if_icmp .eq 5, 3) := by decide +kernel
theorem d_MO_acknowledge_35 : decode b_MO_acknowledge 35 = .ok (.iconst 0, 1) := by decide +kernel
theorem d_MO_acknowledge_36 : decode b_MO_acknowledge 36 = .ok (.ireturn, 1) := by decide +kernel
theorem d_MO_acknowledge_37 : decode b_MO_acknowledge 37 = .ok (.aload_n 0, 1) := by decide +kernel
theorem d_MO_acknowledge_38 : decode b_MO_acknowledge 38 = .ok (.getfield 107, 3) := by decide +kernel
theorem d_MO_acknowledge_41 : decode b_MO_acknowledge 41 = .ok (.iconst 4, 1) := by decide +kernel
theorem d_MO_acknowledge_42 : decode b_MO_acknowledge 42 = .ok (.iload_n 1, 1) := by decide +kernel
theorem d_MO_acknowledge_43 : decode b_MO_acknowledge 43 = .ok (.imul, 1) := by decide +kernel
theorem d_MO_acknowledge_44 : decode b_MO_acknowledge 44 = .ok (.iload_n 2, 1) := by decide +kernel
theorem d_MO_acknowledge_45 : decode b_MO_acknowledge 45 = .ok (.iadd, 1) := by decide +kernel
theorem d_MO_acknowledge_46 : decode b_MO_acknowledge 46 = .ok (.iconst 3, 1) := by decide +kernel
theorem d_MO_acknowledge_47 : decode b_MO_acknowledge 47 = .ok (.iastore, 1) := by decide +kernel
theorem d_MO_acknowledge_48 : decode b_MO_acknowledge 48 = .ok (.aload_n 0, 1) := by decide +kernel
theorem d_MO_acknowledge_49 : decode b_MO_acknowledge 49 = .ok (.iconst 4, 1) := by decide +kernel
theorem d_MO_acknowledge_50 : decode b_MO_acknowledge 50 = .ok (.iload_n 1, 1) := by decide +kernel
theorem d_MO_acknowledge_51 : decode b_MO_acknowledge 51 = .ok (.iload_n 2, 1) := by decide +kernel
theorem d_MO_acknowledge_52 : decode b_MO_acknowledge 52 = .ok (.iconst 0, 1) := by decide +kernel
theorem d_MO_acknowledge_53 : decode b_MO_acknowledge 53 = .ok (.iconst 0, 1) := by decide +kernel
theorem d_MO_acknowledge_54 : decode b_MO_acknowledge 54 = .ok (.invokevirtual 226, 3) := by decide +kernel
theorem d_MO_acknowledge_57 : decode b_MO_acknowledge 57 = .ok (.aload_n 0, 1) := by decide +kernel
theorem d_MO_acknowledge_58 : decode b_MO_acknowledge 58 = .ok (.invokevirtual 211, 3) := by decide +kernel
theorem d_MO_acknowledge_61 : decode b_MO_acknowledge 61 = .ok (.iconst 1, 1) := by decide +kernel
theorem d_MO_acknowledge_62 : decode b_MO_acknowledge 62 = .ok (.ireturn, 1) := by decide +kernel
theorem d_MO_inhibit_0 : decode b_MO_inhibit 0 = .ok (.aload_n 0, 1) := by decide +kernel
theorem d_MO_inhibit_1 : decode b_MO_inhibit 1 = .ok (.iconst 0, 1) := by decide +kernel
theorem d_MO_inhibit_2 : decode b_MO_inhibit 2 = .ok (.putfield 181, 3) := by decide +kernel
theorem d_MO_inhibit_5 : decode b_MO_inhibit 5 = .ok (.aload_n 0, 1) := by decide +kernel
theorem d_MO_inhibit_6 : decode b_MO_inhibit 6 = .ok (.iload_n 1, 1) := by decide +kernel
theorem d_MO_inhibit_7 : decode b_MO_inhibit 7 = .ok (.iconst 2, 1) := by decide +kernel
theorem d_MO_inhibit_8 : decode b_MO_inhibit 8 = .ok (.invokevirtual 197, 3) := by decide +kernel
theorem d_MO_inhibit_11 : decode b_MO_inhibit 11 = .ok (.ifCond .eq 35, 3) := by decide +kernel
theorem d_MO_inhibit_14 : decode b_MO_inhibit 14 = .ok (.aload_n 0, 1) := by decide +kernel
theorem d_MO_inhibit_15 : decode b_MO_inhibit 15 = .ok (.iload_n 1, 1) := by decide +kernel
theorem d_MO_inhibit_16 : decode b_MO_inhibit 16 = .ok (.iload_n 2, 1) := by decide +kernel
theorem d_MO_inhibit_17 : decode b_MO_inhibit 17 = .ok (.invokevirtual 205, 3) := by decide +kernel
theorem d_MO_inhibit_20 : decode b_MO_inhibit 20 = .ok (.ifCond .eq 26, 3) := by decide +kernel
theorem d_MO_inhibit_23 : decode b_MO_inhibit 23 = .ok (.aload_n 0, 1) := by decide +kernel
theorem d_MO_inhibit_24 : decode b_MO_inhibit 24 = .ok (.getfield 68, 3) := by decide +kernel
theorem d_MO_inhibit_27 : decode b_MO_inhibit 27 = .ok (.iconst 4, 1) := by decide +kernel
theorem d_MO_inhibit_28 : decode b_MO_inhibit 28 = .ok (.iload_n 1, 1) := by decide +kernel
theorem d_MO_inhibit_29 : decode b_MO_inhibit 29 = .ok (.imul, 1) := by decide +kernel
theorem d_MO_inhibit_30 : decode b_MO_inhibit 30 = .ok (.iload_n 2, 1) := by decide +kernel
theorem d_MO_inhibit_31 : decode b_MO_inhibit 31 = .ok (.iadd, 1) := by decide +kernel
theorem d_MO_inhibit_32 : decode b_MO_inhibit 32 = .ok (.iaload, 1) := by decide +kernel
theorem d_MO_inhibit_33 : decode b_MO_inhibit 33 = .ok (.ifCond .eq 13, 3) := by decide +kernel
theorem d_MO_inhibit_36 : decode b_MO_inhibit 36 = .ok (.iload_n 3, 1) := by decide +kernel
theorem d_MO_inhibit_37 : decode b_MO_inhibit 37 = .ok (.ifCond .lt 9, 3) := by decide +kernel
theorem d_MO_inhibit_40 : decode b_MO_inhibit 40 = .ok (.iload_n 3, 1) := by decide +kernel
theorem d_MO_inhibit_41 : decode b_MO_inhibit 41 = .ok (.ldc 190, 2) := by decide +kernel
theorem d_MO_inhibit_43 : decode b_MO_inhibit 43 = .ok (.if_icmp .le 5, 3) := by decide +kernel
theorem d_MO_inhibit_46 : decode b_MO_inhibit 46 = .ok (.iconst 0, 1) := by decide +kernel
theorem d_MO_inhibit_47 : decode b_MO_inhibit 47 = .ok (.ireturn, 1) := by decide +kernel
theorem d_MO_inhibit_48 : decode b_MO_inhibit 48 = .ok (.aload_n 0, 1) := by decide +kernel
theorem d_MO_inhibit_49 : decode b_MO_inhibit 49 = .ok (.getfield 95, 3) := by decide +kernel
theorem d_MO_inhibit_52 : decode b_MO_inhibit 52 = .ok (.iconst 4, 1) := by decide +kernel
theorem d_MO_inhibit_53 : decode b_MO_inhibit 53 = .ok (.iload_n 1, 1) := by decide +kernel
theorem d_MO_inhibit_54 : decode b_MO_inhibit 54 = .ok (.imul, 1) := by decide +kernel
theorem d_MO_inhibit_55 : decode b_MO_inhibit 55 = .ok (.iload_n 2, 1) := by decide +kernel
theorem d_MO_inhibit_56 : decode b_MO_inhibit 56 = .ok (.iadd, 1) := by decide +kernel
theorem d_MO_inhibit_57 : decode b_MO_inhibit 57 = .ok (.aload_n 0, 1) := by decide +kernel
theorem d_MO_inhibit_58 : decode b_MO_inhibit 58 = .ok (.getfield 223, 3) := by decide +kernel
theorem d_MO_inhibit_61 : decode b_MO_inhibit 61 = .ok (.iload_n 3, 1) := by decide +kernel
theorem d_MO_inhibit_62 : decode b_MO_inhibit 62 = .ok (.iadd, 1) := by decide +kernel
theorem d_MO_inhibit_63 : decode b_MO_inhibit 63 = .ok (.iastore, 1) := by decide +kernel
theorem d_MO_inhibit_64 : decode b_MO_inhibit 64 = .ok (.aload_n 0, 1) := by decide +kernel
theorem d_MO_inhibit_65 : decode b_MO_inhibit 65 = .ok (.invokevirtual 211, 3) := by decide +kernel
theorem d_MO_inhibit_68 : decode b_MO_inhibit 68 = .ok (.iconst 1, 1) := by decide +kernel
theorem d_MO_inhibit_69 : decode b_MO_inhibit 69 = .ok (.ireturn, 1) := by decide +kernel
theorem d_MO_isController_0 : decode b_MO_isController 0 = .ok (.iload_n 0, 1) := by decide +kernel
theorem d_MO_isController_1 : decode b_MO_isController 1 = .ok (.ifCond .lt 12, 3) := by decide +kernel
theorem d_MO_isController_4 : decode b_MO_isController 4 = .ok (.iload_n 0, 1) := by decide +kernel
theorem d_MO_isController_5 : decode b_MO_isController 5 = .ok (.iconst 4, 1) := by decide +kernel
theorem d_MO_isController_6 : decode b_MO_isController 6 = .ok (.if_icmp .ge 7, 3) := by decide +kernel
theorem d_MO_isController_9 : decode b_MO_isController 9 = .ok (.iconst 1, 1) := by decide +kernel
theorem d_MO_isController_10 : decode b_MO_isController 10 = .ok (.goto 4, 3) := by decide +kernel
theorem d_MO_isController_13 : decode b_MO_isController 13 = .ok (.iconst 0, 1) := by decide +kernel
theorem d_MO_isController_14 : decode b_MO_isController 14 = .ok (.ireturn, 1) := by decide +kernel
theorem d_MO_isLeased_0 : decode b_MO_isLeased 0 = .ok (.aload_n 0, 1) := by decide +kernel
theorem d_MO_isLeased_1 : decode b_MO_isLeased 1 = .ok (.getfield 47, 3) := by decide +kernel
theorem d_MO_isLeased_4 : decode b_MO_isLeased 4 = .ok (.iload_n 1, 1) := by decide +kernel
theorem d_MO_isLeased_5 : decode b_MO_isLeased 5 = .ok (.iaload, 1) := by decide +kernel
theorem d_MO_isLeased_6 : decode b_MO_isLeased 6 = .ok (.iconst (-1), 1) := by decide +kernel
theorem d_MO_isLeased_7 : decode b_MO_isLeased 7 = .ok (.if_icmp .eq 24, 3) := by decide +kernel
theorem d_MO_isLeased_10 : decode b_MO_isLeased 10 = .ok (.aload_n 0, 1) := by decide +kernel
theorem d_MO_isLeased_11 : decode b_MO_isLeased 11 = .ok (.getfield 223, 3) := by decide +kernel
theorem d_MO_isLeased_14 : decode b_MO_isLeased 14 = .ok (.aload_n 0, 1) := by decide +kernel
theorem d_MO_isLeased_15 : decode b_MO_isLeased 15 = .ok (.getfield 50, 3) := by decide +kernel
theorem d_MO_isLeased_18 : decode b_MO_isLeased 18 = .ok (.iload_n 1, 1) := by decide +kernel
theorem d_MO_isLeased_19 : decode b_MO_isLeased 19 = .ok (.iaload, 1) := by decide +kernel
theorem d_MO_isLeased_20 : decode b_MO_isLeased 20 = .ok (.isub, 1) := by decide +kernel
theorem d_MO_isLeased_21 : decode b_MO_isLeased 21 = .ok (.sipush 10000, 3) := by decide +kernel
theorem d_MO_isLeased_24 : decode b_MO_isLeased 24 = .ok (.if_icmp .ge 7, 3) := by decide +kernel
theorem d_MO_isLeased_27 : decode b_MO_isLeased 27 = .ok (.iconst 1, 1) := by decide +kernel
theorem d_MO_isLeased_28 : decode b_MO_isLeased 28 = .ok (.goto 4, 3) := by decide +kernel
theorem d_MO_isLeased_31 : decode b_MO_isLeased 31 = .ok (.iconst 0, 1) := by decide +kernel
theorem d_MO_isLeased_32 : decode b_MO_isLeased 32 = .ok (.ireturn, 1) := by decide +kernel
theorem d_MO_lease_0 : decode b_MO_lease 0 = .ok (.aload_n 0, 1) := by decide +kernel
theorem d_MO_lease_1 : decode b_MO_lease 1 = .ok (.iconst 0, 1) := by decide +kernel
theorem d_MO_lease_2 : decode b_MO_lease 2 = .ok (.putfield 181, 3) := by decide +kernel
theorem d_MO_lease_5 : decode b_MO_lease 5 = .ok (.iload_n 1, 1) := by decide +kernel
theorem d_MO_lease_6 : decode b_MO_lease 6 = .ok (.invokestatic 280, 3) := by decide +kernel
theorem d_MO_lease_9 : decode b_MO_lease 9 = .ok (.ifCond .eq 39, 3) := by decide +kernel
theorem d_MO_lease_12 : decode b_MO_lease 12 = .ok (.aload_n 0, 1) := by decide +kernel
theorem d_MO_lease_13 : decode b_MO_lease 13 = .ok (.iload_n 2, 1) := by decide +kernel
theorem d_MO_lease_14 : decode b_MO_lease 14 = .ok (.iconst 2, 1) := by decide +kernel
theorem d_MO_lease_15 : decode b_MO_lease 15 = .ok (.invokevirtual 197, 3) := by decide +kernel
theorem d_MO_lease_18 : decode b_MO_lease 18 = .ok (.ifCond .eq 30, 3) := by decide +kernel
theorem d_MO_lease_21 : decode b_MO_lease 21 = .ok (.aload_n 0, 1) := by decide +kernel
theorem d_MO_lease_22 : decode b_MO_lease 22 = .ok (.getfield 32, 3) := by decide +kernel
theorem d_MO_lease_25 : decode b_MO_lease 25 = .ok (.iload_n 2, 1) := by decide +kernel
theorem d_MO_lease_26 : decode b_MO_lease 26 = .ok (.baload, 1) := by decide +kernel
theorem d_MO_lease_27 : decode b_MO_lease 27 = .ok (.ifCond .eq 21, 3) := by decide +kernel
theorem d_MO_lease_30 : decode b_MO_lease 30 = .ok (.aload_n 0, 1) := by decide +kernel
theorem d_MO_lease_31 : decode b_MO_lease 31 = .ok (.iload_n 2, 1) := by decide +kernel
theorem d_MO_lease_32 : decode b_MO_lease 32 = .ok (.invokevirtual 283, 3) := by decide +kernel
theorem d_MO_lease_35 : decode b_MO_lease 35 = .ok (.ifCond .eq 15, 3) := by decide +kernel
theorem d_MO_lease_38 : decode b_MO_lease 38 = .ok (.aload_n 0, 1) := by decide +kernel
theorem d_MO_lease_39 : decode b_MO_lease 39 = .ok (.getfield 47, 3) := by decide +kernel
theorem d_MO_lease_42 : decode b_MO_lease 42 = .ok (.iload_n 2, 1) := by decide +kernel
theorem d_MO_lease_43 : decode b_MO_lease 43 = .ok (.iaload, 1) := by decide +kernel
theorem d_MO_lease_44 : decode b_MO_lease 44 = .ok (.iload_n 1, 1) := by decide +kernel
theorem d_MO_lease_45 : decode b_MO_lease 45 = .ok (.if_icmp .eq 5, 3) := by decide +kernel
theorem d_MO_lease_48 : decode b_MO_lease 48 = .ok (.iconst 0, 1) := by decide +kernel
theorem d_MO_lease_49 : decode b_MO_lease 49 = .ok (.ireturn, 1) := by decide +kernel
theorem d_MO_lease_50 : decode b_MO_lease 50 = .ok (.aload_n 0, 1) := by decide +kernel
theorem d_MO_lease_51 : decode b_MO_lease 51 = .ok (.getfield 47, 3) := by decide +kernel
theorem d_MO_lease_54 : decode b_MO_lease 54 = .ok (.iload_n 2, 1) := by decide +kernel
theorem d_MO_lease_55 : decode b_MO_lease 55 = .ok (.iload_n 1, 1) := by decide +kernel
theorem d_MO_lease_56 : decode b_MO_lease 56 = .ok (.iastore, 1) := by decide +kernel
theorem d_MO_lease_57 : decode b_MO_lease 57 = .ok (.aload_n 0, 1) := by decide +kernel
theorem d_MO_lease_58 : decode b_MO_lease 58 = .ok (.getfield 50, 3) := by decide +kernel
theorem d_MO_lease_61 : decode b_MO_lease 61 = .ok (.iload_n 2, 1) := by decide +kernel
theorem d_MO_lease_62 : decode b_MO_lease 62 = .ok (.aload_n 0, 1) := by decide +kernel
theorem d_MO_lease_63 : decode b_MO_lease 63 = .ok (.getfield 223, 3) := by decide +kernel
theorem d_MO_lease_66 : decode b_MO_lease 66 = .ok (.iastore, 1) := by decide +kernel
theorem d_MO_lease_67 : decode b_MO_lease 67 = .ok (.aload_n 0, 1) := by decide +kernel
theorem d_MO_lease_68 : decode b_MO_lease 68 = .ok (.invokevirtual 211, 3) := by decide +kernel
theorem d_MO_lease_71 : decode b_MO_lease 71 = .ok (.iconst 1, 1) := by decide +kernel
theorem d_MO_lease_72 : decode b_MO_lease 72 = .ok (.ireturn, 1) := by decide +kernel
theorem d_MO_order_0 : decode b_MO_order 0 = .ok (.iload_n 1, 1) := by decide +kernel
theorem d_MO_order_1 : decode b_MO_order 1 = .ok (.invokestatic 280, 3) := by decide +kernel
theorem d_MO_order_4 : decode b_MO_order 4 = .ok (.ifCond .eq 36, 3) := by decide +kernel
theorem d_MO_order_7 : decode b_MO_order 7 = .ok (.aload_n 0, 1) := by decide +kernel
theorem d_MO_order_8 : decode b_MO_order 8 = .ok (.iload_n 2, 1) := by decide +kernel
theorem d_MO_order_9 : decode b_MO_order 9 = .ok (.iconst 2, 1) := by decide +kernel
theorem d_MO_order_10 : decode b_MO_order 10 = .ok (.invokevirtual 197, 3) := by decide +kernel
theorem d_MO_order_13 : decode b_MO_order 13 = .ok (.ifCond .eq 27, 3) := by decide +kernel
theorem d_MO_order_16 : decode b_MO_order 16 = .ok (.aload_n 0, 1) := by decide +kernel
theorem d_MO_order_17 : decode b_MO_order 17 = .ok (.getfield 32, 3) := by decide +kernel
theorem d_MO_order_20 : decode b_MO_order 20 = .ok (.iload_n 2, 1) := by decide +kernel
theorem d_MO_order_21 : decode b_MO_order 21 = .ok (.invokestatic 185, 3) := by decide +kernel
theorem d_MO_order_24 : decode b_MO_order 24 = .ok (.ifCond .eq 7, 3) := by decide +kernel
theorem d_MO_order_27 : decode b_MO_order 27 = .ok (.iload_n 2, 1) := by decide +kernel
theorem d_MO_order_28 : decode b_MO_order 28 = .ok (.goto 4, 3) := by decide +kernel
theorem d_MO_order_31 : decode b_MO_order 31 = .ok (.iconst 0, 1) := by decide +kernel
theorem d_MO_order_32 : decode b_MO_order 32 = .ok (.baload, 1) := by decide +kernel
theorem d_MO_order_33 : decode b_MO_order 33 = .ok (.ifCond .eq 7, 3) := by decide +kernel
theorem d_MO_order_36 : decode b_MO_order 36 = .ok (.iconst 1, 1) := by decide +kernel
theorem d_MO_order_37 : decode b_MO_order 37 = .ok (.goto 4, 3) := by decide +kernel
theorem d_MO_order_40 : decode b_MO_order 40 = .ok (.iconst 0, 1) := by decide +kernel
theorem d_MO_order_41 : decode b_MO_order 41 = .ok (.istore 5, 2) := by decide +kernel
theorem d_MO_order_43 : decode b_MO_order 43 = .ok (.aload_n 0, 1) := by decide +kernel
theorem d_MO_order_44 : decode b_MO_order 44 = .ok (.iload 5, 2) := by decide +kernel
theorem d_MO_order_46 : decode b_MO_order 46 = .ok (.ifCond .ne 7, 3) := by decide +kernel
theorem d_MO_order_49 : decode b_MO_order 49 = .ok (.iconst 1, 1) := by decide +kernel
theorem d_MO_order_50 : decode b_MO_order 50 = .ok (.goto 17, 3) := by decide +kernel
theorem d_MO_order_53 : decode b_MO_order 53 = .ok (.aload_n 0, 1) := by decide +kernel
theorem d_MO_order_54 : decode b_MO_order 54 = .ok (.getfield 286, 3) := by decide +kernel
theorem d_MO_order_57 : decode b_MO_order 57 = .ok (.bipush 100, 2) := by decide +kernel
theorem d_MO_order_59 : decode b_MO_order 59 = .ok (.if_icmp .ne 7, 3) := by decide +kernel
theorem d_MO_order_62 : decode b_MO_order 62 = .ok (.iconst 2, 1) := by decide +kernel
theorem d_MO_order_63 : decode b_MO_order 63 = .ok (.goto 4, 3) := by decide +kernel
theorem d_MO_order_66 : decode b_MO_order 66 = .ok (.iconst 0, 1) := by decide +kernel
theorem d_MO_order_67 : decode b_MO_order 67 = .ok (.putfield 181, 3) := by decide +kernel
theorem d_MO_order_70 : decode b_MO_order 70 = .ok (.aload_n 0, 1) := by decide +kernel
theorem d_MO_order_71 : decode b_MO_order 71 = .ok (.getfield 181, 3) := by decide +kernel
theorem d_MO_order_74 : decode b_MO_order 74 = .ok (.ifCond .le 5, 3) := by decide +kernel
theorem d_MO_order_77 : decode b_MO_order 77 = .ok (.iconst 0, 1) := by decide +kernel
theorem d_MO_order_78 : decode b_MO_order 78 = .ok (.ireturn, 1) := by decide +kernel
theorem d_MO_order_79 : decode b_MO_order 79 = .ok (.aload_n 0, 1) := by decide +kernel
theorem d_MO_order_80 : decode b_MO_order 80 = .ok (.getfield 161, 3) := by decide +kernel
theorem d_MO_order_83 : decode b_MO_order 83 = .ok (.aload_n 0, 1) := by decide +kernel
theorem d_MO_order_84 : decode b_MO_order 84 = .ok (.getfield 286, 3) := by decide +kernel
theorem d_MO_order_87 : decode b_MO_order 87 = .ok (.iload_n 1, 1) := by decide +kernel
theorem d_MO_order_88 : decode b_MO_order 88 = .ok (.iastore, 1) := by decide +kernel
theorem d_MO_order_89 : decode b_MO_order 89 = .ok (.aload_n 0, 1) := by decide +kernel
theorem d_MO_order_90 : decode b_MO_order 90 = .ok (.getfield 164, 3) := by decide +kernel
theorem d_MO_order_93 : decode b_MO_order 93 = .ok (.aload_n 0, 1) := by decide +kernel
theorem d_MO_order_94 : decode b_MO_order 94 = .ok (.getfield 286, 3) := by decide +kernel
theorem d_MO_order_97 : decode b_MO_order 97 = .ok (.iload_n 3, 1) := by decide +kernel
theorem d_MO_order_98 : decode b_MO_order 98 = .ok (.iastore, 1) := by decide +kernel
theorem d_MO_order_99 : decode b_MO_order 99 = .ok (.aload_n 0, 1) := by decide +kernel
theorem d_MO_order_100 : decode b_MO_order 100 = .ok (.getfield 167, 3) := by decide +kernel
theorem d_MO_order_103 : decode b_MO_order 103 = .ok (.aload_n 0, 1) := by decide +kernel
theorem d_MO_order_104 : decode b_MO_order 104 = .ok (.getfield 286, 3) := by decide +kernel
theorem d_MO_order_107 : decode b_MO_order 107 = .ok (.iload 4, 2) := by decide +kernel
theorem d_MO_order_109 : decode b_MO_order 109 = .ok (.iastore, 1) := by decide +kernel
theorem d_MO_order_110 : decode b_MO_order 110 = .ok (.aload_n 0, 1) := by decide +kernel
theorem d_MO_order_111 : decode b_MO_order 111 = .ok (.getfield 170, 3) := by decide +kernel
theorem d_MO_order_114 : decode b_MO_order 114 = .ok (.aload_n 0, 1) := by decide +kernel
theorem d_MO_order_115 : decode b_MO_order 115 = .ok (.getfield 286, 3) := by decide +kernel
theorem d_MO_order_118 : decode b_MO_order 118 = .ok (.iconst (-1), 1) := by decide +kernel
theorem d_MO_order_119 : decode b_MO_order 119 = .ok (.iastore, 1) := by decide +kernel
theorem d_MO_order_120 : decode b_MO_order 120 = .ok (.aload_n 0, 1) := by decide +kernel
theorem d_MO_order_121 : decode b_MO_order 121 = .ok (.dup, 1) := by decide +kernel
theorem d_MO_order_122 : decode b_MO_order 122 = .ok (.getfield 286, 3) := by decide +kernel
theorem d_MO_order_125 : decode b_MO_order 125 = .ok (.iconst 1, 1) := by decide +kernel
theorem d_MO_order_126 : decode b_MO_order 126 = .ok (.iadd, 1) := by decide +kernel
theorem d_MO_order_127 : decode b_MO_order 127 = .ok (.putfield 286, 3) := by decide +kernel
theorem d_MO_order_130 : decode b_MO_order 130 = .ok (.aload_n 0, 1) := by decide +kernel
theorem d_MO_order_131 : decode b_MO_order 131 = .ok (.iconst 5, 1) := by decide +kernel
theorem d_MO_order_132 : decode b_MO_order 132 = .ok (.iload_n 2, 1) := by decide +kernel
theorem d_MO_order_133 : decode b_MO_order 133 = .ok (.aload_n 0, 1) := by decide +kernel
theorem d_MO_order_134 : decode b_MO_order 134 = .ok (.getfield 286, 3) := by decide +kernel
theorem d_MO_order_137 : decode b_MO_order 137 = .ok (.iconst 1, 1) := by decide +kernel
theorem d_MO_order_138 : decode b_MO_order 138 = .ok (.isub, 1) := by decide +kernel
theorem d_MO_order_139 : decode b_MO_order 139 = .ok (.iconst 0, 1) := by decide +kernel
theorem d_MO_order_140 : decode b_MO_order 140 = .ok (.iconst 0, 1) := by decide +kernel
theorem d_MO_order_141 : decode b_MO_order 141 = .ok (.invokevirtual 226, 3) := by decide +kernel
theorem d_MO_order_144 : decode b_MO_order 144 = .ok (.aload_n 0, 1) := by decide +kernel
theorem d_MO_order_145 : decode b_MO_order 145 = .ok (.invokevirtual 211, 3) := by decide +kernel
theorem d_MO_order_148 : decode b_MO_order 148 = .ok (.aload_n 0, 1) := by decide +kernel
theorem d_MO_order_149 : decode b_MO_order 149 = .ok (.getfield 286, 3) := by decide +kernel
theorem d_MO_order_152 : decode b_MO_order 152 = .ok (.iconst 1, 1) := by decide +kernel
theorem d_MO_order_153 : decode b_MO_order 153 = .ok (.isub, 1) := by decide +kernel
theorem d_MO_order_154 : decode b_MO_order 154 = .ok (.ireturn, 1) := by decide +kernel
theorem d_MO_local_0 : decode b_MO_local 0 = .ok (.aload_n 0, 1) := by decide +kernel
theorem d_MO_local_1 : decode b_MO_local 1 = .ok (.iconst 0, 1) := by decide +kernel
theorem d_MO_local_2 : decode b_MO_local 2 = .ok (.putfield 181, 3) := by decide +kernel
theorem d_MO_local_5 : decode b_MO_local 5 = .ok (.aload_n 0, 1) := by decide +kernel
theorem d_MO_local_6 : decode b_MO_local 6 = .ok (.iload_n 1, 1) := by decide +kernel
theorem d_MO_local_7 : decode b_MO_local 7 = .ok (.iconst 2, 1) := by decide +kernel
theorem d_MO_local_8 : decode b_MO_local 8 = .ok (.invokevirtual 197, 3) := by decide +kernel
theorem d_MO_local_11 : decode b_MO_local 11 = .ok (.ifCond .eq 12, 3) := by decide +kernel
theorem d_MO_local_14 : decode b_MO_local 14 = .ok (.aload_n 0, 1) := by decide +kernel
theorem d_MO_local_15 : decode b_MO_local 15 = .ok (.getfield 32, 3) := by decide +kernel
theorem d_MO_local_18 : decode b_MO_local 18 = .ok (.iload_n 1, 1) := by decide +kernel
theorem d_MO_local_19 : decode b_MO_local 19 = .ok (.baload, 1) := by decide +kernel
theorem d_MO_local_20 : decode b_MO_local 20 = .ok (.ifCond .ne 5, 3) := by decide +kernel
theorem d_MO_local_23 : decode b_MO_local 23 = .ok (.iconst 0, 1) := by decide +kernel
theorem d_MO_local_24 : decode b_MO_local 24 = .ok (.ireturn, 1) := by decide +kernel
theorem d_MO_local_25 : decode b_MO_local 25 = .ok (.iload_n 2, 1) := by decide +kernel
theorem d_MO_local_26 : decode b_MO_local 26 = .ok (.iconst (-1), 1) := by decide +kernel
theorem d_MO_local_27 : decode b_MO_local 27 = .ok (.if_icmp .eq 49, 3) := by decide +kernel
theorem d_MO_local_30 : decode b_MO_local 30 = .ok (.aload_n 0, 1) := by decide +kernel
theorem d_MO_local_31 : decode b_MO_local 31 = .ok (.getfield 28, 3) := by decide +kernel
theorem d_MO_local_34 : decode b_MO_local 34 = .ok (.iload_n 1, 1) := by decide +kernel
theorem d_MO_local_35 : decode b_MO_local 35 = .ok (.baload, 1) := by decide +kernel
theorem d_MO_local_36 : decode b_MO_local 36 = .ok (.ifCond .ne 28, 3) := by decide +kernel
theorem d_MO_local_39 : decode b_MO_local 39 = .ok (.iload_n 2, 1) := by decide +kernel
theorem d_MO_local_40 : decode b_MO_local 40 = .ok (.aload_n 0, 1) := by decide +kernel
theorem d_MO_local_41 : decode b_MO_local 41 = .ok (.getfield 35, 3) := by decide +kernel
theorem d_MO_local_44 : decode b_MO_local 44 = .ok (.iload_n 1, 1) := by decide +kernel
theorem d_MO_local_45 : decode b_MO_local 45 = .ok (.iaload, 1) := by decide +kernel
theorem d_MO_local_46 : decode b_MO_local 46 = .ok (.aload_n 0, 1) := by decide +kernel
theorem d_MO_local_47 : decode b_MO_local 47 = .ok (.getfield 38, 3) := by decide +kernel
theorem d_MO_local_50 : decode b_MO_local 50 = .ok (.iload_n 1, 1) := by decide +kernel
theorem d_MO_local_51 : decode b_MO_local 51 = .ok (.iaload, 1) := by decide +kernel
theorem d_MO_local_52 : decode b_MO_local 52 = .ok (.aload_n 0, 1) := by decide +kernel
theorem d_MO_local_53 : decode b_MO_local 53 = .ok (.getfield 41, 3) := by decide +kernel
theorem d_MO_local_56 : decode b_MO_local 56 = .ok (.iload_n 1, 1) := by decide +kernel
theorem d_MO_local_57 : decode b_MO_local 57 = .ok (.iaload, 1) := by decide +kernel
theorem d_MO_local_58 : decode b_MO_local 58 = .ok (.invokestatic 240, 3) := by decide +kernel
theorem d_MO_local_61 : decode b_MO_local 61 = .ok (.ifCond .ne 5, 3) := by decide +kernel
theorem d_MO_local_64 : decode b_MO_local 64 = .ok (.iconst 0, 1) := by decide +kernel
theorem d_MO_local_65 : decode b_MO_local 65 = .ok (.ireturn, 1) := by decide +kernel
theorem d_MO_local_66 : decode b_MO_local 66 = .ok (.aload_n 0, 1) := by decide +kernel
theorem d_MO_local_67 : decode b_MO_local 67 = .ok (.getfield 44, 3) := by decide +kernel
theorem d_MO_local_70 : decode b_MO_local 70 = .ok (.iload_n 1, 1) := by decide +kernel
theorem d_MO_local_71 : decode b_MO_local 71 = .ok (.iload_n 2, 1) := by decide +kernel
theorem d_MO_local_72 : decode b_MO_local 72 = .ok (.iastore, 1) := by decide +kernel
theorem d_MO_local_73 : decode b_MO_local 73 = .ok (.goto 10, 3) := by decide +kernel
theorem d_MO_local_76 : decode b_MO_local 76 = .ok (.aload_n 0, 1) := by decide +kernel
theorem d_MO_local_77 : decode b_MO_local 77 = .ok (.getfield 28, 3) := by decide +kernel
theorem d_MO_local_80 : decode b_MO_local 80 = .ok (.iload_n 1, 1) := by decide +kernel
theorem d_MO_local_81 : decode b_MO_local 81 = .ok (.iload_n 3, 1) := by decide +kernel
theorem d_MO_local_82 : decode b_MO_local 82 = .ok (.bastore, 1) := by decide +kernel
theorem d_MO_local_83 : decode b_MO_local 83 = .ok (.aload_n 0, 1) := by decide +kernel
theorem d_MO_local_84 : decode b_MO_local 84 = .ok (.invokevirtual 211, 3) := by decide +kernel
theorem d_MO_local_87 : decode b_MO_local 87 = .ok (.iconst 1, 1) := by decide +kernel
theorem d_MO_local_88 : decode b_MO_local 88 = .ok (.ireturn, 1) := by decide +kernel
theorem d_MO_restart_0 : decode b_MO_restart 0 = .ok (.aload_n 0, 1) := by decide +kernel
theorem d_MO_restart_1 : decode b_MO_restart 1 = .ok (.iconst 0, 1) := by decide +kernel
theorem d_MO_restart_2 : decode b_MO_restart 2 = .ok (.putfield 181, 3) := by decide +kernel
theorem d_MO_restart_5 : decode b_MO_restart 5 = .ok (.aload_n 0, 1) := by decide +kernel
theorem d_MO_restart_6 : decode b_MO_restart 6 = .ok (.iload_n 1, 1) := by decide +kernel
theorem d_MO_restart_7 : decode b_MO_restart 7 = .ok (.iconst 2, 1) := by decide +kernel
theorem d_MO_restart_8 : decode b_MO_restart 8 = .ok (.invokevirtual 197, 3) := by decide +kernel
theorem d_MO_restart_11 : decode b_MO_restart 11 = .ok (.ifCond .ne 5, 3) := by decide +kernel
theorem d_MO_restart_14 : decode b_MO_restart 14 = .ok (.iconst 0, 1) := by decide +kernel
theorem d_MO_restart_15 : decode b_MO_restart 15 = .ok (.ireturn, 1) := by decide +kernel
theorem d_MO_restart_16 : decode b_MO_restart 16 = .ok (.aload_n 0, 1) := by decide +kernel
theorem d_MO_restart_17 : decode b_MO_restart 17 = .ok (.getfield 19, 3) := by decide +kernel
theorem d_MO_restart_20 : decode b_MO_restart 20 = .ok (.iload_n 1, 1) := by decide +kernel
theorem d_MO_restart_21 : decode b_MO_restart 21 = .ok (.dup2, 1) := by decide +kernel
theorem d_MO_restart_22 : decode b_MO_restart 22 = .ok (.iaload, 1) := by decide +kernel
theorem d_MO_restart_23 : decode b_MO_restart 23 = .ok (.iconst 1, 1) := by decide +kernel
theorem d_MO_restart_24 : decode b_MO_restart 24 = .ok (.iadd, 1) := by decide +kernel
theorem d_MO_restart_25 : decode b_MO_restart 25 = .ok (.iastore, 1) := by decide +kernel
theorem d_MO_restart_26 : decode b_MO_restart 26 = .ok (.aload_n 0, 1) := by decide +kernel
theorem d_MO_restart_27 : decode b_MO_restart 27 = .ok (.iload_n 1, 1) := by decide +kernel
theorem d_MO_restart_28 : decode b_MO_restart 28 = .ok (.invokevirtual 176, 3) := by decide +kernel
theorem d_MO_restart_31 : decode b_MO_restart 31 = .ok (.aload_n 0, 1) := by decide +kernel
theorem d_MO_restart_32 : decode b_MO_restart 32 = .ok (.invokevirtual 211, 3) := by decide +kernel
theorem d_MO_restart_35 : decode b_MO_restart 35 = .ok (.iconst 1, 1) := by decide +kernel
theorem d_MO_restart_36 : decode b_MO_restart 36 = .ok (.ireturn, 1) := by decide +kernel
theorem d_MO_isLoud_0 : decode b_MO_isLoud 0 = .ok (.iconst 0, 1) := by decide +kernel
theorem d_MO_isLoud_1 : decode b_MO_isLoud 1 = .ok (.istore_n 2, 1) := by decide +kernel
theorem d_MO_isLoud_2 : decode b_MO_isLoud 2 = .ok (.iconst 4, 1) := by decide +kernel
theorem d_MO_isLoud_3 : decode b_MO_isLoud 3 = .ok (.iload_n 1, 1) := by decide +kernel
theorem d_MO_isLoud_4 : decode b_MO_isLoud 4 = .ok (.imul, 1) := by decide +kernel
theorem d_MO_isLoud_5 : decode b_MO_isLoud 5 = .ok (.istore_n 3, 1) := by decide +kernel
theorem d_MO_isLoud_6 : decode b_MO_isLoud 6 = .ok (.iload_n 3, 1) := by decide +kernel
theorem d_MO_isLoud_7 : decode b_MO_isLoud 7 = .ok (.iconst 4, 1) := by decide +kernel
theorem d_MO_isLoud_8 : decode b_MO_isLoud 8 = .ok (.iload_n 1, 1) := by decide +kernel
theorem d_MO_isLoud_9 : decode b_MO_isLoud 9 = .ok (.imul, 1) := by decide +kernel
theorem d_MO_isLoud_10 : decode b_MO_isLoud 10 = .ok (.iconst 4, 1) := by decide +kernel
theorem d_MO_isLoud_11 : decode b_MO_isLoud 11 = .ok (.iadd, 1) := by decide +kernel
theorem d_MO_isLoud_12 : decode b_MO_isLoud 12 = .ok (.if_icmp .ge 37, 3) := by decide +kernel
theorem d_MO_isLoud_15 : decode b_MO_isLoud 15 = .ok (.iload_n 2, 1) := by decide +kernel
theorem d_MO_isLoud_16 : decode b_MO_isLoud 16 = .ok (.ifCond .ne 21, 3) := by decide +kernel
theorem d_MO_isLoud_19 : decode b_MO_isLoud 19 = .ok (.aload_n 0, 1) := by decide +kernel
theorem d_MO_isLoud_20 : decode b_MO_isLoud 20 = .ok (.getfield 98, 3) := by decide +kernel
theorem d_MO_isLoud_23 : decode b_MO_isLoud 23 = .ok (.iload_n 3, 1) := by decide +kernel
theorem d_MO_isLoud_24 : decode b_MO_isLoud 24 = .ok (.baload, 1) := by decide +kernel
theorem d_MO_isLoud_25 : decode b_MO_isLoud 25 = .ok (.ifCond .eq 16, 3) := by decide +kernel
theorem d_MO_isLoud_28 : decode b_MO_isLoud 28 = .ok (.aload_n 0, 1) := by decide +kernel
theorem d_MO_isLoud_29 : decode b_MO_isLoud 29 = .ok (.getfield 101, 3) := by decide +kernel
theorem d_MO_isLoud_32 : decode b_MO_isLoud 32 = .ok (.iload_n 3, 1) := by decide +kernel
theorem d_MO_isLoud_33 : decode b_MO_isLoud 33 = .ok (.baload, 1) := by decide +kernel
theorem d_MO_isLoud_34 : decode b_MO_isLoud 34 = .ok (.ifCond .ne 7, 3) := by decide +kernel
theorem d_MO_isLoud_37 : decode b_MO_isLoud 37 = .ok (.iconst 1, 1) := by decide +kernel
theorem d_MO_isLoud_38 : decode b_MO_isLoud 38 = .ok (.goto 4, 3) := by decide +kernel
theorem d_MO_isLoud_41 : decode b_MO_isLoud 41 = .ok (.iconst 0, 1) := by decide +kernel
theorem d_MO_isLoud_42 : decode b_MO_isLoud 42 = .ok (.istore_n 2, 1) := by decide +kernel
theorem d_MO_isLoud_43 : decode b_MO_isLoud 43 = .ok (.iinc 3 1, 3) := by decide +kernel
theorem d_MO_isLoud_46 : decode b_MO_isLoud 46 = .ok (.goto (-40), 3) := by decide +kernel
theorem d_MO_isLoud_49 : decode b_MO_isLoud 49 = .ok (.iload_n 2, 1) := by decide +kernel
theorem d_MO_isLoud_50 : decode b_MO_isLoud 50 = .ok (.ifCond .eq 24, 3) := by decide +kernel
theorem d_MO_isLoud_53 : decode b_MO_isLoud 53 = .ok (.aload_n 0, 1) := by decide +kernel
theorem d_MO_isLoud_54 : decode b_MO_isLoud 54 = .ok (.getfield 223, 3) := by decide +kernel
theorem d_MO_isLoud_57 : decode b_MO_isLoud 57 = .ok (.aload_n 0, 1) := by decide +kernel
theorem d_MO_isLoud_58 : decode b_MO_isLoud 58 = .ok (.getfield 53, 3) := by decide +kernel
theorem d_MO_isLoud_61 : decode b_MO_isLoud 61 = .ok (.iload_n 1, 1) := by decide +kernel
theorem d_MO_isLoud_62 : decode b_MO_isLoud 62 = .ok (.iaload, 1) := by decide +kernel
theorem d_MO_isLoud_63 : decode b_MO_isLoud 63 = .ok (.isub, 1) := by decide +kernel
theorem d_MO_isLoud_64 : decode b_MO_isLoud 64 = .ok (.sipush 3000, 3) := by decide +kernel
theorem d_MO_isLoud_67 : decode b_MO_isLoud 67 = .ok (.if_icmp .lt 7, 3) := by decide +kernel
theorem d_MO_isLoud_70 : decode b_MO_isLoud 70 = .ok (.iconst 1, 1) := by decide +kernel
theorem d_MO_isLoud_71 : decode b_MO_isLoud 71 = .ok (.goto 4, 3) := by decide +kernel
theorem d_MO_isLoud_74 : decode b_MO_isLoud 74 = .ok (.iconst 0, 1) := by decide +kernel
theorem d_MO_isLoud_75 : decode b_MO_isLoud 75 = .ok (.ireturn, 1) := by decide +kernel
theorem d_MO_levelOf_0 : decode b_MO_levelOf 0 = .ok (.aload_n 0, 1) := by decide +kernel
theorem d_MO_levelOf_1 : decode b_MO_levelOf 1 = .ok (.getfield 98, 3) := by decide +kernel
theorem d_MO_levelOf_4 : decode b_MO_levelOf 4 = .ok (.iload_n 1, 1) := by decide +kernel
theorem d_MO_levelOf_5 : decode b_MO_levelOf 5 = .ok (.baload, 1) := by decide +kernel
theorem d_MO_levelOf_6 : decode b_MO_levelOf 6 = .ok (.ifCond .eq 12, 3) := by decide +kernel
theorem d_MO_levelOf_9 : decode b_MO_levelOf 9 = .ok (.aload_n 0, 1) := by decide +kernel
theorem d_MO_levelOf_10 : decode b_MO_levelOf 10 = .ok (.getfield 101, 3) := by decide +kernel
theorem d_MO_levelOf_13 : decode b_MO_levelOf 13 = .ok (.iload_n 1, 1) := by decide +kernel
theorem d_MO_levelOf_14 : decode b_MO_levelOf 14 = .ok (.baload, 1) := by decide +kernel
theorem d_MO_levelOf_15 : decode b_MO_levelOf 15 = .ok (.ifCond .eq 5, 3) := by decide +kernel
theorem d_MO_levelOf_18 : decode b_MO_levelOf 18 = .ok (.iconst (-1), 1) := by decide +kernel
theorem d_MO_levelOf_19 : decode b_MO_levelOf 19 = .ok (.ireturn, 1) := by decide +kernel
theorem d_MO_levelOf_20 : decode b_MO_levelOf 20 = .ok (.aload_n 0, 1) := by decide +kernel
theorem d_MO_levelOf_21 : decode b_MO_levelOf 21 = .ok (.getfield 223, 3) := by decide +kernel
theorem d_MO_levelOf_24 : decode b_MO_levelOf 24 = .ok (.aload_n 0, 1) := by decide +kernel
theorem d_MO_levelOf_25 : decode b_MO_levelOf 25 = .ok (.getfield 104, 3) := by decide +kernel
theorem d_MO_levelOf_28 : decode b_MO_levelOf 28 = .ok (.iload_n 1, 1) := by decide +kernel
theorem d_MO_levelOf_29 : decode b_MO_levelOf 29 = .ok (.iaload, 1) := by decide +kernel
theorem d_MO_levelOf_30 : decode b_MO_levelOf 30 = .ok (.isub, 1) := by decide +kernel
theorem d_MO_levelOf_31 : decode b_MO_levelOf 31 = .ok (.istore_n 2, 1) := by decide +kernel
theorem d_MO_levelOf_32 : decode b_MO_levelOf 32 = .ok (.sipush 2000, 3) := by decide +kernel
theorem d_MO_levelOf_35 : decode b_MO_levelOf 35 = .ok (.aload_n 0, 1) := by decide +kernel
theorem d_MO_levelOf_36 : decode b_MO_levelOf 36 = .ok (.getfield 68, 3) := by decide +kernel
theorem d_MO_levelOf_39 : decode b_MO_levelOf 39 = .ok (.iload_n 1, 1) := by decide +kernel
theorem d_MO_levelOf_40 : decode b_MO_levelOf 40 = .ok (.iaload, 1) := by decide +kernel
theorem d_MO_levelOf_41 : decode b_MO_levelOf 41 = .ok (.imul, 1) := by decide +kernel
theorem d_MO_levelOf_42 : decode b_MO_levelOf 42 = .ok (.istore_n 3, 1) := by decide +kernel
theorem d_MO_levelOf_43 : decode b_MO_levelOf 43 = .ok (.iload_n 2, 1) := by decide +kernel
theorem d_MO_levelOf_44 : decode b_MO_levelOf 44 = .ok (.iload_n 3, 1) := by decide +kernel
theorem d_MO_levelOf_45 : decode b_MO_levelOf 45 = .ok (.if_icmp .ge 7, 3) := by decide +kernel
theorem d_MO_levelOf_48 : decode b_MO_levelOf 48 = .ok (.iconst 0, 1) := by decide +kernel
theorem d_MO_levelOf_49 : decode b_MO_levelOf 49 = .ok (.goto 26, 3) := by decide +kernel
theorem d_MO_levelOf_52 : decode b_MO_levelOf 52 = .ok (.iload_n 2, 1) := by decide +kernel
theorem d_MO_levelOf_53 : decode b_MO_levelOf 53 = .ok (.iconst 2, 1) := by decide +kernel
theorem d_MO_levelOf_54 : decode b_MO_levelOf 54 = .ok (.iload_n 3, 1) := by decide +kernel
theorem d_MO_levelOf_55 : decode b_MO_levelOf 55 = .ok (.imul, 1) := by decide +kernel
theorem d_MO_levelOf_56 : decode b_MO_levelOf 56 = .ok (.if_icmp .ge 7, 3) := by decide +kernel
theorem d_MO_levelOf_59 : decode b_MO_levelOf 59 = .ok (.iconst 1, 1) := by decide +kernel
theorem d_MO_levelOf_60 : decode b_MO_levelOf 60 = .ok (.goto 15, 3) := by decide +kernel
theorem d_MO_levelOf_63 : decode b_MO_levelOf 63 = .ok (.iload_n 2, 1) := by decide +kernel
theorem d_MO_levelOf_64 : decode b_MO_levelOf 64 = .ok (.iconst 4, 1) := by decide +kernel
theorem d_MO_levelOf_65 : decode b_MO_levelOf 65 = .ok (.iload_n 3, 1) := by decide +kernel
theorem d_MO_levelOf_66 : decode b_MO_levelOf 66 = .ok (.imul, 1) := by decide +kernel
theorem d_MO_levelOf_67 : decode b_MO_levelOf 67 = .ok (.if_icmp .ge 7, 3) := by decide +kernel
theorem d_MO_levelOf_70 : decode b_MO_levelOf 70 = .ok (.iconst 2, 1) := by decide +kernel
theorem d_MO_levelOf_71 : decode b_MO_levelOf 71 = .ok (.goto 4, 3) := by decide +kernel
theorem d_MO_levelOf_74 : decode b_MO_levelOf 74 = .ok (.iconst 3, 1) := by decide +kernel
theorem d_MO_levelOf_75 : decode b_MO_levelOf 75 = .ok (.ireturn, 1) := by decide +kernel
theorem d_MO_lookChannel_0 : decode b_MO_lookChannel 0 = .ok (.iload_n 2, 1) := by decide +kernel
theorem d_MO_lookChannel_1 : decode b_MO_lookChannel 1 = .ok (.bipush 10, 2) := by decide +kernel
theorem d_MO_lookChannel_3 : decode b_MO_lookChannel 3 = .ok (.isub, 1) := by decide +kernel
theorem d_MO_lookChannel_4 : decode b_MO_lookChannel 4 = .ok (.bipush 8, 2) := by decide +kernel
theorem d_MO_lookChannel_6 : decode b_MO_lookChannel 6 = .ok (.idiv, 1) := by decide +kernel
theorem d_MO_lookChannel_7 : decode b_MO_lookChannel 7 = .ok (.istore_n 3, 1) := by decide +kernel
theorem d_MO_lookChannel_8 : decode b_MO_lookChannel 8 = .ok (.iconst 4, 1) := by decide +kernel
theorem d_MO_lookChannel_9 : decode b_MO_lookChannel 9 = .ok (.iload_n 1, 1) := by decide +kernel
theorem d_MO_lookChannel_10 : decode b_MO_lookChannel 10 = .ok (.imul, 1) := by decide +kernel
theorem d_MO_lookChannel_11 : decode b_MO_lookChannel 11 = .ok (.iload_n 3, 1) := by decide +kernel
theorem d_MO_lookChannel_12 : decode b_MO_lookChannel 12 = .ok (.iadd, 1) := by decide +kernel
theorem d_MO_lookChannel_13 : decode b_MO_lookChannel 13 = .ok (.istore 4, 2) := by decide +kernel
theorem d_MO_lookChannel_15 : decode b_MO_lookChannel 15 = .ok (.iload_n 3, 1) := by decide +kernel
theorem d_MO_lookChannel_16 : decode b_MO_lookChannel 16 = .ok (.aload_n 0, 1) := by decide +kernel
theorem d_MO_lookChannel_17 : decode b_MO_lookChannel 17 = .ok (.getfield 22, 3) := by decide +kernel
theorem d_MO_lookChannel_20 : decode b_MO_lookChannel 20 = .ok (.iload_n 1, 1) := by decide +kernel
theorem d_MO_lookChannel_21 : decode b_MO_lookChannel 21 = .ok (.iaload, 1) := by decide +kernel
theorem d_MO_lookChannel_22 : decode b_MO_lookChannel 22 = .ok (.if_icmp .lt 5, 3) := by decide +kernel
theorem d_MO_lookChannel_25 : decode b_MO_lookChannel 25 = .ok (.iconst (-1), 1) := by decide +kernel
theorem d_MO_lookChannel_26 : decode b_MO_lookChannel 26 = .ok (.ireturn, 1) := by decide +kernel
theorem d_MO_lookChannel_27 : decode b_MO_lookChannel 27 = .ok (.iload_n 2, 1) := by decide +kernel
theorem d_MO_lookChannel_28 : decode b_MO_lookChannel 28 = .ok (.bipush 10, 2) := by decide +kernel
theorem d_MO_lookChannel_30 : decode b_MO_lookChannel 30 = .ok (.isub, 1) := by decide +kernel
theorem d_MO_lookChannel_31 : decode b_MO_lookChannel 31 = .ok (.bipush 8, 2) := by decide +kernel
theorem d_MO_lookChannel_33 : decode b_MO_lookChannel 33 = .ok (.irem, 1) := by decide +kernel
theorem d_MO_lookChannel_34 : decode b_MO_lookChannel 34 = .ok (.tableswitch 119 0 3 #[30, 74, 81, 97], 30) := by decide +kernel
theorem d_MO_lookChannel_64 : decode b_MO_lookChannel 64 = .ok (.aload_n 0, 1) := by decide +kernel
theorem d_MO_lookChannel_65 : decode b_MO_lookChannel 65 = .ok (.getfield 68, 3) := by decide +kernel
theorem d_MO_lookChannel_68 : decode b_MO_lookChannel 68 = .ok (.iload 4, 2) := by decide +kernel
theorem d_MO_lookChannel_70 : decode b_MO_lookChannel 70 = .ok (.iaload, 1) := by decide +kernel
theorem d_MO_lookChannel_71 : decode b_MO_lookChannel 71 = .ok (.ifCond .ne 7, 3) := by decide +kernel
theorem d_MO_lookChannel_74 : decode b_MO_lookChannel 74 = .ok (.iconst 0, 1) := by decide +kernel
theorem d_MO_lookChannel_75 : decode b_MO_lookChannel 75 = .ok (.goto 32, 3) := by decide +kernel
theorem d_MO_lookChannel_78 : decode b_MO_lookChannel 78 = .ok (.aload_n 0, 1) := by decide +kernel
theorem d_MO_lookChannel_79 : decode b_MO_lookChannel 79 = .ok (.getfield 98, 3) := by decide +kernel
theorem d_MO_lookChannel_82 : decode b_MO_lookChannel 82 = .ok (.iload 4, 2) := by decide +kernel
theorem d_MO_lookChannel_84 : decode b_MO_lookChannel 84 = .ok (.baload, 1) := by decide +kernel
theorem d_MO_lookChannel_85 : decode b_MO_lookChannel 85 = .ok (.ifCond .ne 7, 3) := by decide +kernel
theorem d_MO_lookChannel_88 : decode b_MO_lookChannel 88 = .ok (.iconst 1, 1) := by decide +kernel
theorem d_MO_lookChannel_89 : decode b_MO_lookChannel 89 = .ok (.goto 18, 3) := by decide +kernel
theorem d_MO_lookChannel_92 : decode b_MO_lookChannel 92 = .ok (.aload_n 0, 1) := by decide +kernel
theorem d_MO_lookChannel_93 : decode b_MO_lookChannel 93 = .ok (.getfield 101, 3) := by decide +kernel
theorem d_MO_lookChannel_96 : decode b_MO_lookChannel 96 = .ok (.iload 4, 2) := by decide +kernel
theorem d_MO_lookChannel_98 : decode b_MO_lookChannel 98 = .ok (.baload, 1) := by decide +kernel
theorem d_MO_lookChannel_99 : decode b_MO_lookChannel 99 = .ok (.ifCond .eq 7, 3) := by decide +kernel
theorem d_MO_lookChannel_102 : decode b_MO_lookChannel 102 = .ok (.iconst 3, 1) := by decide +kernel
theorem d_MO_lookChannel_103 : decode b_MO_lookChannel 103 = .ok (.goto 4, 3) := by decide +kernel
theorem d_MO_lookChannel_106 : decode b_MO_lookChannel 106 = .ok (.iconst 2, 1) := by decide +kernel
theorem d_MO_lookChannel_107 : decode b_MO_lookChannel 107 = .ok (.ireturn, 1) := by decide +kernel
theorem d_MO_lookChannel_108 : decode b_MO_lookChannel 108 = .ok (.aload_n 0, 1) := by decide +kernel
theorem d_MO_lookChannel_109 : decode b_MO_lookChannel 109 = .ok (.iload 4, 2) := by decide +kernel
theorem d_MO_lookChannel_111 : decode b_MO_lookChannel 111 = .ok (.invokevirtual 288, 3) := by decide +kernel
theorem d_MO_lookChannel_114 : decode b_MO_lookChannel 114 = .ok (.ireturn, 1) := by decide +kernel
theorem d_MO_lookChannel_115 : decode b_MO_lookChannel 115 = .ok (.aload_n 0, 1) := by decide +kernel
theorem d_MO_lookChannel_116 : decode b_MO_lookChannel 116 = .ok (.getfield 77, 3) := by decide +kernel
theorem d_MO_lookChannel_119 : decode b_MO_lookChannel 119 = .ok (.iload 4, 2) := by decide +kernel
theorem d_MO_lookChannel_121 : decode b_MO_lookChannel 121 = .ok (.baload, 1) := by decide +kernel
theorem d_MO_lookChannel_122 : decode b_MO_lookChannel 122 = .ok (.ifCond .eq 7, 3) := by decide +kernel
theorem d_MO_lookChannel_125 : decode b_MO_lookChannel 125 = .ok (.iconst 1, 1) := by decide +kernel
theorem d_MO_lookChannel_126 : decode b_MO_lookChannel 126 = .ok (.goto 4, 3) := by decide +kernel
theorem d_MO_lookChannel_129 : decode b_MO_lookChannel 129 = .ok (.iconst 0, 1) := by decide +kernel
theorem d_MO_lookChannel_130 : decode b_MO_lookChannel 130 = .ok (.ireturn, 1) := by decide +kernel
theorem d_MO_lookChannel_131 : decode b_MO_lookChannel 131 = .ok (.aload_n 0, 1) := by decide +kernel
theorem d_MO_lookChannel_132 : decode b_MO_lookChannel 132 = .ok (.getfield 77, 3) := by decide +kernel
theorem d_MO_lookChannel_135 : decode b_MO_lookChannel 135 = .ok (.iload 4, 2) := by decide +kernel
theorem d_MO_lookChannel_137 : decode b_MO_lookChannel 137 = .ok (.baload, 1) := by decide +kernel
theorem d_MO_lookChannel_138 : decode b_MO_lookChannel 138 = .ok (.ifCond .eq 13, 3) := by decide +kernel
theorem d_MO_lookChannel_141 : decode b_MO_lookChannel 141 = .ok (.aload_n 0, 1) := by decide +kernel
theorem d_MO_lookChannel_142 : decode b_MO_lookChannel 142 = .ok (.getfield 83, 3) := by decide +kernel
theorem d_MO_lookChannel_145 : decode b_MO_lookChannel 145 = .ok (.iload 4, 2) := by decide +kernel
theorem d_MO_lookChannel_147 : decode b_MO_lookChannel 147 = .ok (.iaload, 1) := by decide +kernel
theorem d_MO_lookChannel_148 : decode b_MO_lookChannel 148 = .ok (.goto 4, 3) := by decide +kernel
theorem d_MO_lookChannel_151 : decode b_MO_lookChannel 151 = .ok (.iconst (-1), 1) := by decide +kernel
theorem d_MO_lookChannel_152 : decode b_MO_lookChannel 152 = .ok (.ireturn, 1) := by decide +kernel
theorem d_MO_lookChannel_153 : decode b_MO_lookChannel 153 = .ok (.aload_n 0, 1) := by decide +kernel
theorem d_MO_lookChannel_154 : decode b_MO_lookChannel 154 = .ok (.getfield 107, 3) := by decide +kernel
theorem d_MO_lookChannel_157 : decode b_MO_lookChannel 157 = .ok (.iload 4, 2) := by decide +kernel
theorem d_MO_lookChannel_159 : decode b_MO_lookChannel 159 = .ok (.iaload, 1) := by decide +kernel
theorem d_MO_lookChannel_160 : decode b_MO_lookChannel 160 = .ok (.ireturn, 1) := by decide +kernel
theorem d_MO_look_0 : decode b_MO_look 0 = .ok (.iload_n 1, 1) := by decide +kernel
theorem d_MO_look_1 : decode b_MO_look 1 = .ok (.invokestatic 185, 3) := by decide +kernel
theorem d_MO_look_4 : decode b_MO_look 4 = .ok (.ifCond .eq 40, 3) := by decide +kernel
theorem d_MO_look_7 : decode b_MO_look 7 = .ok (.iload_n 2, 1) := by decide +kernel
theorem d_MO_look_8 : decode b_MO_look 8 = .ok (.ifCond .lt 9, 3) := by decide +kernel
theorem d_MO_look_11 : decode b_MO_look 11 = .ok (.iload_n 2, 1) := by decide +kernel
theorem d_MO_look_12 : decode b_MO_look 12 = .ok (.bipush 10, 2) := by decide +kernel
theorem d_MO_look_14 : decode b_MO_look 14 = .ok (.if_icmp .lt 26, 3) := by decide +kernel
theorem d_MO_look_17 : decode b_MO_look 17 = .ok (.iload_n 2, 1) := by decide +kernel
theorem d_MO_look_18 : decode b_MO_look 18 = .ok (.bipush 10, 2) := by decide +kernel
theorem d_MO_look_20 : decode b_MO_look 20 = .ok (.if_icmp .lt 24, 3) := by decide +kernel
theorem d_MO_look_23 : decode b_MO_look 23 = .ok (.iload_n 2, 1) := by decide +kernel
theorem d_MO_look_24 : decode b_MO_look 24 = .ok (.bipush 42, 2) := by decide +kernel
theorem d_MO_look_26 : decode b_MO_look 26 = .ok (.if_icmp .ge 18, 3) := by decide +kernel
theorem d_MO_look_29 : decode b_MO_look 29 = .ok (.iload_n 2, 1) := by decide +kernel
theorem d_MO_look_30 : decode b_MO_look 30 = .ok (.bipush 10, 2) := by decide +kernel
theorem d_MO_look_32 : decode b_MO_look 32 = .ok (.isub, 1) := by decide +kernel
theorem d_MO_look_33 : decode b_MO_look 33 = .ok (.bipush 8, 2) := by decide +kernel
theorem d_MO_look_35 : decode b_MO_look 35 = .ok (.irem, 1) := by decide +kernel
theorem d_MO_look_36 : decode b_MO_look 36 = .ok (.iconst 5, 1) := by decide +kernel
theorem d_MO_look_37 : decode b_MO_look 37 = .ok (.if_icmp .ge 7, 3) := by decide +kernel
theorem d_MO_look_40 : decode b_MO_look 40 = .ok (.iconst 1, 1) := by decide +kernel
theorem d_MO_look_41 : decode b_MO_look 41 = .ok (.goto 4, 3) := by decide +kernel
theorem d_MO_look_44 : decode b_MO_look 44 = .ok (.iconst 0, 1) := by decide +kernel
theorem d_MO_look_45 : decode b_MO_look 45 = .ok (.istore_n 3, 1) := by decide +kernel
theorem d_MO_look_46 : decode b_MO_look 46 = .ok (.aload_n 0, 1) := by decide +kernel
theorem d_MO_look_47 : decode b_MO_look 47 = .ok (.iload_n 3, 1) := by decide +kernel
theorem d_MO_look_48 : decode b_MO_look 48 = .ok (.ifCond .eq 7, 3) := by decide +kernel
theorem d_MO_look_51 : decode b_MO_look 51 = .ok (.iconst 0, 1) := by decide +kernel
theorem d_MO_look_52 : decode b_MO_look 52 = .ok (.goto 4, 3) := by decide +kernel
theorem d_MO_look_55 : decode b_MO_look 55 = .ok (.iconst 1, 1) := by decide +kernel
theorem d_MO_look_56 : decode b_MO_look 56 = .ok (.putfield 181, 3) := by decide +kernel
theorem d_MO_look_59 : decode b_MO_look 59 = .ok (.iload_n 3, 1) := by decide +kernel
theorem d_MO_look_60 : decode b_MO_look 60 = .ok (.ifCond .ne 5, 3) := by decide +kernel
theorem d_MO_look_63 : decode b_MO_look 63 = .ok (.iconst 0, 1) := by decide +kernel
theorem d_MO_look_64 : decode b_MO_look 64 = .ok (.ireturn, 1) := by decide +kernel
theorem d_MO_look_65 : decode b_MO_look 65 = .ok (.iload_n 2, 1) := by decide +kernel
theorem d_MO_look_66 : decode b_MO_look 66 = .ok (.tableswitch 185 0 9 #[54, 61, 81, 88, 95, 102, 116, 136, 155, 170], 54) := by decide +kernel
theorem d_MO_look_120 : decode b_MO_look 120 = .ok (.aload_n 0, 1) := by decide +kernel
theorem d_MO_look_121 : decode b_MO_look 121 = .ok (.getfield 13, 3) := by decide +kernel
theorem d_MO_look_124 : decode b_MO_look 124 = .ok (.iload_n 1, 1) := by decide +kernel
theorem d_MO_look_125 : decode b_MO_look 125 = .ok (.iaload, 1) := by decide +kernel
theorem d_MO_look_126 : decode b_MO_look 126 = .ok (.ireturn, 1) := by decide +kernel
theorem d_MO_look_127 : decode b_MO_look 127 = .ok (.aload_n 0, 1) := by decide +kernel
theorem d_MO_look_128 : decode b_MO_look 128 = .ok (.getfield 13, 3) := by decide +kernel
theorem d_MO_look_131 : decode b_MO_look 131 = .ok (.iload_n 1, 1) := by decide +kernel
theorem d_MO_look_132 : decode b_MO_look 132 = .ok (.iaload, 1) := by decide +kernel
theorem d_MO_look_133 : decode b_MO_look 133 = .ok (.ifCond .ne 7, 3) := by decide +kernel
theorem d_MO_look_136 : decode b_MO_look 136 = .ok (.iconst (-1), 1) := by decide +kernel
theorem d_MO_look_137 : decode b_MO_look 137 = .ok (.goto 9, 3) := by decide +kernel
theorem d_MO_look_140 : decode b_MO_look 140 = .ok (.aload_n 0, 1) := by decide +kernel
theorem d_MO_look_141 : decode b_MO_look 141 = .ok (.getfield 16, 3) := by decide +kernel
theorem d_MO_look_144 : decode b_MO_look 144 = .ok (.iload_n 1, 1) := by decide +kernel
theorem d_MO_look_145 : decode b_MO_look 145 = .ok (.iaload, 1) := by decide +kernel
theorem d_MO_look_146 : decode b_MO_look 146 = .ok (.ireturn, 1) := by decide +kernel
theorem d_MO_look_147 : decode b_MO_look 147 = .ok (.aload_n 0, 1) := by decide +kernel
theorem d_MO_look_148 : decode b_MO_look 148 = .ok (.getfield 19, 3) := by decide +kernel
theorem d_MO_look_151 : decode b_MO_look 151 = .ok (.iload_n 1, 1) := by decide +kernel
theorem d_MO_look_152 : decode b_MO_look 152 = .ok (.iaload, 1) := by decide +kernel
theorem d_MO_look_153 : decode b_MO_look 153 = .ok (.ireturn, 1) := by decide +kernel
theorem d_MO_look_154 : decode b_MO_look 154 = .ok (.aload_n 0, 1) := by decide +kernel
theorem d_MO_look_155 : decode b_MO_look 155 = .ok (.getfield 22, 3) := by decide +kernel
theorem d_MO_look_158 : decode b_MO_look 158 = .ok (.iload_n 1, 1) := by decide +kernel
theorem d_MO_look_159 : decode b_MO_look 159 = .ok (.iaload, 1) := by decide +kernel
theorem d_MO_look_160 : decode b_MO_look 160 = .ok (.ireturn, 1) := by decide +kernel
theorem d_MO_look_161 : decode b_MO_look 161 = .ok (.aload_n 0, 1) := by decide +kernel
theorem d_MO_look_162 : decode b_MO_look 162 = .ok (.getfield 25, 3) := by decide +kernel
theorem d_MO_look_165 : decode b_MO_look 165 = .ok (.iload_n 1, 1) := by decide +kernel
theorem d_MO_look_166 : decode b_MO_look 166 = .ok (.iaload, 1) := by decide +kernel
theorem d_MO_look_167 : decode b_MO_look 167 = .ok (.ireturn, 1) := by decide +kernel
theorem d_MO_look_168 : decode b_MO_look 168 = .ok (.aload_n 0, 1) := by decide +kernel
theorem d_MO_look_169 : decode b_MO_look 169 = .ok (.iload_n 1, 1) := by decide +kernel
theorem d_MO_look_170 : decode b_MO_look 170 = .ok (.invokevirtual 291, 3) := by decide +kernel
theorem d_MO_look_173 : decode b_MO_look 173 = .ok (.ifCond .eq 7, 3) := by decide +kernel
theorem d_MO_look_176 : decode b_MO_look 176 = .ok (.iconst 1, 1) := by decide +kernel
theorem d_MO_look_177 : decode b_MO_look 177 = .ok (.goto 4, 3) := by decide +kernel
theorem d_MO_look_180 : decode b_MO_look 180 = .ok (.iconst 0, 1) := by decide +kernel
theorem d_MO_look_181 : decode b_MO_look 181 = .ok (.ireturn, 1) := by decide +kernel
theorem d_MO_look_182 : decode b_MO_look 182 = .ok (.aload_n 0, 1) := by decide +kernel
theorem d_MO_look_183 : decode b_MO_look 183 = .ok (.getfield 32, 3) := by decide +kernel
theorem d_MO_look_186 : decode b_MO_look 186 = .ok (.iload_n 1, 1) := by decide +kernel
theorem d_MO_look_187 : decode b_MO_look 187 = .ok (.baload, 1) := by decide +kernel
theorem d_MO_look_188 : decode b_MO_look 188 = .ok (.ifCond .eq 12, 3) := by decide +kernel
theorem d_MO_look_191 : decode b_MO_look 191 = .ok (.aload_n 0, 1) := by decide +kernel
theorem d_MO_look_192 : decode b_MO_look 192 = .ok (.getfield 44, 3) := by decide +kernel
theorem d_MO_look_195 : decode b_MO_look 195 = .ok (.iload_n 1, 1) := by decide +kernel
theorem d_MO_look_196 : decode b_MO_look 196 = .ok (.iaload, 1) := by decide +kernel
theorem d_MO_look_197 : decode b_MO_look 197 = .ok (.goto 4, 3) := by decide +kernel
theorem d_MO_look_200 : decode b_MO_look 200 = .ok (.iconst (-1), 1) := by decide +kernel
theorem d_MO_look_201 : decode b_MO_look 201 = .ok (.ireturn, 1) := by decide +kernel
theorem d_MO_look_202 : decode b_MO_look 202 = .ok (.aload_n 0, 1) := by decide +kernel
theorem d_MO_look_203 : decode b_MO_look 203 = .ok (.iload_n 1, 1) := by decide +kernel
theorem d_MO_look_204 : decode b_MO_look 204 = .ok (.invokevirtual 283, 3) := by decide +kernel
theorem d_MO_look_207 : decode b_MO_look 207 = .ok (.ifCond .eq 12, 3) := by decide +kernel
theorem d_MO_look_210 : decode b_MO_look 210 = .ok (.aload_n 0, 1) := by decide +kernel
theorem d_MO_look_211 : decode b_MO_look 211 = .ok (.getfield 47, 3) := by decide +kernel
theorem d_MO_look_214 : decode b_MO_look 214 = .ok (.iload_n 1, 1) := by decide +kernel
theorem d_MO_look_215 : decode b_MO_look 215 = .ok (.iaload, 1) := by decide +kernel
theorem d_MO_look_216 : decode b_MO_look 216 = .ok (.goto 4, 3) := by decide +kernel
theorem d_MO_look_219 : decode b_MO_look 219 = .ok (.iconst (-1), 1) := by decide +kernel
theorem d_MO_look_220 : decode b_MO_look 220 = .ok (.ireturn, 1) := by decide +kernel
theorem d_MO_look_221 : decode b_MO_look 221 = .ok (.aload_n 0, 1) := by decide +kernel
theorem d_MO_look_222 : decode b_MO_look 222 = .ok (.getfield 28, 3) := by decide +kernel
theorem d_MO_look_225 : decode b_MO_look 225 = .ok (.iload_n 1, 1) := by decide +kernel
theorem d_MO_look_226 : decode b_MO_look 226 = .ok (.baload, 1) := by decide +kernel
theorem d_MO_look_227 : decode b_MO_look 227 = .ok (.ifCond .eq 7, 3) := by decide +kernel
theorem d_MO_look_230 : decode b_MO_look 230 = .ok (.iconst 1, 1) := by decide +kernel
theorem d_MO_look_231 : decode b_MO_look 231 = .ok (.goto 4, 3) := by decide +kernel
theorem d_MO_look_234 : decode b_MO_look 234 = .ok (.iconst 0, 1) := by decide +kernel
theorem d_MO_look_235 : decode b_MO_look 235 = .ok (.ireturn, 1) := by decide +kernel
theorem d_MO_look_236 : decode b_MO_look 236 = .ok (.aload_n 0, 1) := by decide +kernel
theorem d_MO_look_237 : decode b_MO_look 237 = .ok (.getfield 32, 3) := by decide +kernel
theorem d_MO_look_240 : decode b_MO_look 240 = .ok (.iload_n 1, 1) := by decide +kernel
theorem d_MO_look_241 : decode b_MO_look 241 = .ok (.baload, 1) := by decide +kernel
theorem d_MO_look_242 : decode b_MO_look 242 = .ok (.ifCond .eq 7, 3) := by decide +kernel
theorem d_MO_look_245 : decode b_MO_look 245 = .ok (.iconst 1, 1) := by decide +kernel
theorem d_MO_look_246 : decode b_MO_look 246 = .ok (.goto 4, 3) := by decide +kernel
theorem d_MO_look_249 : decode b_MO_look 249 = .ok (.iconst 0, 1) := by decide +kernel
theorem d_MO_look_250 : decode b_MO_look 250 = .ok (.ireturn, 1) := by decide +kernel
theorem d_MO_look_251 : decode b_MO_look 251 = .ok (.aload_n 0, 1) := by decide +kernel
theorem d_MO_look_252 : decode b_MO_look 252 = .ok (.iload_n 1, 1) := by decide +kernel
theorem d_MO_look_253 : decode b_MO_look 253 = .ok (.iload_n 2, 1) := by decide +kernel
theorem d_MO_look_254 : decode b_MO_look 254 = .ok (.invokevirtual 294, 3) := by decide +kernel
theorem d_MO_look_257 : decode b_MO_look 257 = .ok (.ireturn, 1) := by decide +kernel
theorem d_MO_message_0 : decode b_MO_message 0 = .ok (.aload_n 0, 1) := by decide +kernel
theorem d_MO_message_1 : decode b_MO_message 1 = .ok (.iload_n 1, 1) := by decide +kernel
theorem d_MO_message_2 : decode b_MO_message 2 = .ok (.invokevirtual 262, 3) := by decide +kernel
theorem d_MO_message_5 : decode b_MO_message 5 = .ok (.istore_n 3, 1) := by decide +kernel
theorem d_MO_message_6 : decode b_MO_message 6 = .ok (.aload_n 0, 1) := by decide +kernel
theorem d_MO_message_7 : decode b_MO_message 7 = .ok (.iload_n 3, 1) := by decide +kernel
theorem d_MO_message_8 : decode b_MO_message 8 = .ok (.ifCond .ge 7, 3) := by decide +kernel
theorem d_MO_message_11 : decode b_MO_message 11 = .ok (.iconst 1, 1) := by decide +kernel
theorem d_MO_message_12 : decode b_MO_message 12 = .ok (.goto 17, 3) := by decide +kernel
theorem d_MO_message_15 : decode b_MO_message 15 = .ok (.iload_n 2, 1) := by decide +kernel
theorem d_MO_message_16 : decode b_MO_message 16 = .ok (.ifCond .lt 8, 3) := by decide +kernel
theorem d_MO_message_19 : decode b_MO_message 19 = .ok (.iload_n 2, 1) := by decide +kernel
theorem d_MO_message_20 : decode b_MO_message 20 = .ok (.iconst 4, 1) := by decide +kernel
theorem d_MO_message_21 : decode b_MO_message 21 = .ok (.if_icmp .le 7, 3) := by decide +kernel
theorem d_MO_message_24 : decode b_MO_message 24 = .ok (.iconst 2, 1) := by decide +kernel
theorem d_MO_message_25 : decode b_MO_message 25 = .ok (.goto 4, 3) := by decide +kernel
theorem d_MO_message_28 : decode b_MO_message 28 = .ok (.iconst 0, 1) := by decide +kernel
theorem d_MO_message_29 : decode b_MO_message 29 = .ok (.putfield 181, 3) := by decide +kernel
theorem d_MO_message_32 : decode b_MO_message 32 = .ok (.aload_n 0, 1) := by decide +kernel
theorem d_MO_message_33 : decode b_MO_message 33 = .ok (.getfield 181, 3) := by decide +kernel
theorem d_MO_message_36 : decode b_MO_message 36 = .ok (.ifCond .le 5, 3) := by decide +kernel
theorem d_MO_message_39 : decode b_MO_message 39 = .ok (.iconst 0, 1) := by decide +kernel
theorem d_MO_message_40 : decode b_MO_message 40 = .ok (.ireturn, 1) := by decide +kernel
theorem d_MO_message_41 : decode b_MO_message 41 = .ok (.iload_n 2, 1) := by decide +kernel
theorem d_MO_message_42 : decode b_MO_message 42 = .ok (.tableswitch 58 0 3 #[30, 37, 44, 51], 30) := by decide +kernel
theorem d_MO_message_72 : decode b_MO_message 72 = .ok (.aload_n 0, 1) := by decide +kernel
theorem d_MO_message_73 : decode b_MO_message 73 = .ok (.getfield 119, 3) := by decide +kernel
theorem d_MO_message_76 : decode b_MO_message 76 = .ok (.iload_n 3, 1) := by decide +kernel
theorem d_MO_message_77 : decode b_MO_message 77 = .ok (.iaload, 1) := by decide +kernel
theorem d_MO_message_78 : decode b_MO_message 78 = .ok (.ireturn, 1) := by decide +kernel
theorem d_MO_message_79 : decode b_MO_message 79 = .ok (.aload_n 0, 1) := by decide +kernel
theorem d_MO_message_80 : decode b_MO_message 80 = .ok (.getfield 122, 3) := by decide +kernel
theorem d_MO_message_83 : decode b_MO_message 83 = .ok (.iload_n 3, 1) := by decide +kernel
theorem d_MO_message_84 : decode b_MO_message 84 = .ok (.iaload, 1) := by decide +kernel
theorem d_MO_message_85 : decode b_MO_message 85 = .ok (.ireturn, 1) := by decide +kernel
theorem d_MO_message_86 : decode b_MO_message 86 = .ok (.aload_n 0, 1) := by decide +kernel
theorem d_MO_message_87 : decode b_MO_message 87 = .ok (.getfield 125, 3) := by decide +kernel
theorem d_MO_message_90 : decode b_MO_message 90 = .ok (.iload_n 3, 1) := by decide +kernel
theorem d_MO_message_91 : decode b_MO_message 91 = .ok (.iaload, 1) := by decide +kernel
theorem d_MO_message_92 : decode b_MO_message 92 = .ok (.ireturn, 1) := by decide +kernel
theorem d_MO_message_93 : decode b_MO_message 93 = .ok (.aload_n 0, 1) := by decide +kernel
theorem d_MO_message_94 : decode b_MO_message 94 = .ok (.getfield 128, 3) := by decide +kernel
theorem d_MO_message_97 : decode b_MO_message 97 = .ok (.iload_n 3, 1) := by decide +kernel
theorem d_MO_message_98 : decode b_MO_message 98 = .ok (.iaload, 1) := by decide +kernel
theorem d_MO_message_99 : decode b_MO_message 99 = .ok (.ireturn, 1) := by decide +kernel
theorem d_MO_message_100 : decode b_MO_message 100 = .ok (.aload_n 0, 1) := by decide +kernel
theorem d_MO_message_101 : decode b_MO_message 101 = .ok (.getfield 131, 3) := by decide +kernel
theorem d_MO_message_104 : decode b_MO_message 104 = .ok (.iload_n 3, 1) := by decide +kernel
theorem d_MO_message_105 : decode b_MO_message 105 = .ok (.iaload, 1) := by decide +kernel
theorem d_MO_message_106 : decode b_MO_message 106 = .ok (.ireturn, 1) := by decide +kernel
theorem d_MO_count_0 : decode b_MO_count 0 = .ok (.aload_n 0, 1) := by decide +kernel
theorem d_MO_count_1 : decode b_MO_count 1 = .ok (.iconst 0, 1) := by decide +kernel
theorem d_MO_count_2 : decode b_MO_count 2 = .ok (.putfield 181, 3) := by decide +kernel
theorem d_MO_count_5 : decode b_MO_count 5 = .ok (.iload_n 1, 1) := by decide +kernel
theorem d_MO_count_6 : decode b_MO_count 6 = .ok (.bipush 100, 2) := by decide +kernel
theorem d_MO_count_8 : decode b_MO_count 8 = .ok (.if_icmp .lt 35, 3) := by decide +kernel
theorem d_MO_count_11 : decode b_MO_count 11 = .ok (.iload_n 1, 1) := by decide +kernel
theorem d_MO_count_12 : decode b_MO_count 12 = .ok (.sipush 200, 3) := by decide +kernel
theorem d_MO_count_15 : decode b_MO_count 15 = .ok (.if_icmp .ge 28, 3) := by decide +kernel
theorem d_MO_count_18 : decode b_MO_count 18 = .ok (.iload_n 1, 1) := by decide +kernel
theorem d_MO_count_19 : decode b_MO_count 19 = .ok (.bipush 100, 2) := by decide +kernel
theorem d_MO_count_21 : decode b_MO_count 21 = .ok (.isub, 1) := by decide +kernel
theorem d_MO_count_22 : decode b_MO_count 22 = .ok (.aload_n 0, 1) := by decide +kernel
theorem d_MO_count_23 : decode b_MO_count 23 = .ok (.getfield 286, 3) := by decide +kernel
theorem d_MO_count_26 : decode b_MO_count 26 = .ok (.if_icmp .ge 15, 3) := by decide +kernel
theorem d_MO_count_29 : decode b_MO_count 29 = .ok (.aload_n 0, 1) := by decide +kernel
theorem d_MO_count_30 : decode b_MO_count 30 = .ok (.getfield 173, 3) := by decide +kernel
theorem d_MO_count_33 : decode b_MO_count 33 = .ok (.iload_n 1, 1) := by decide +kernel
theorem d_MO_count_34 : decode b_MO_count 34 = .ok (.bipush 100, 2) := by decide +kernel
theorem d_MO_count_36 : decode b_MO_count 36 = .ok (.isub, 1) := by decide +kernel
theorem d_MO_count_37 : decode b_MO_count 37 = .ok (.iaload, 1) := by decide +kernel
theorem d_MO_count_38 : decode b_MO_count 38 = .ok (.goto 4, 3) := by decide +kernel
theorem d_MO_count_41 : decode b_MO_count 41 = .ok (.iconst (-1), 1) := by decide +kernel
theorem d_MO_count_42 : decode b_MO_count 42 = .ok (.ireturn, 1) := by decide +kernel
theorem d_MO_count_43 : decode b_MO_count 43 = .ok (.iload_n 1, 1) := by decide +kernel
theorem d_MO_count_44 : decode b_MO_count 44 = .ok (.sipush 200, 3) := by decide +kernel
theorem d_MO_count_47 : decode b_MO_count 47 = .ok (.if_icmp .lt 37, 3) := by decide +kernel
theorem d_MO_count_50 : decode b_MO_count 50 = .ok (.iload_n 1, 1) := by decide +kernel
theorem d_MO_count_51 : decode b_MO_count 51 = .ok (.sipush 264, 3) := by decide +kernel
theorem d_MO_count_54 : decode b_MO_count 54 = .ok (.if_icmp .ge 30, 3) := by decide +kernel
theorem d_MO_count_57 : decode b_MO_count 57 = .ok (.iload_n 1, 1) := by decide +kernel
theorem d_MO_count_58 : decode b_MO_count 58 = .ok (.sipush 200, 3) := by decide +kernel
theorem d_MO_count_61 : decode b_MO_count 61 = .ok (.isub, 1) := by decide +kernel
theorem d_MO_count_62 : decode b_MO_count 62 = .ok (.aload_n 0, 1) := by decide +kernel
theorem d_MO_count_63 : decode b_MO_count 63 = .ok (.getfield 214, 3) := by decide +kernel
theorem d_MO_count_66 : decode b_MO_count 66 = .ok (.if_icmp .ge 16, 3) := by decide +kernel
theorem d_MO_count_69 : decode b_MO_count 69 = .ok (.aload_n 0, 1) := by decide +kernel
theorem d_MO_count_70 : decode b_MO_count 70 = .ok (.getfield 116, 3) := by decide +kernel
theorem d_MO_count_73 : decode b_MO_count 73 = .ok (.iload_n 1, 1) := by decide +kernel
theorem d_MO_count_74 : decode b_MO_count 74 = .ok (.sipush 200, 3) := by decide +kernel
theorem d_MO_count_77 : decode b_MO_count 77 = .ok (.isub, 1) := by decide +kernel
theorem d_MO_count_78 : decode b_MO_count 78 = .ok (.iaload, 1) := by decide +kernel
theorem d_MO_count_79 : decode b_MO_count 79 = .ok (.goto 4, 3) := by decide +kernel
theorem d_MO_count_82 : decode b_MO_count 82 = .ok (.iconst (-1), 1) := by decide +kernel
theorem d_MO_count_83 : decode b_MO_count 83 = .ok (.ireturn, 1) := by decide +kernel
theorem d_MO_count_84 : decode b_MO_count 84 = .ok (.iload_n 1, 1) := by decide +kernel
theorem d_MO_count_85 : decode b_MO_count 85 = .ok (.sipush 300, 3) := by decide +kernel
theorem d_MO_count_88 : decode b_MO_count 88 = .ok (.if_icmp .lt 21, 3) := by decide +kernel
theorem d_MO_count_91 : decode b_MO_count 91 = .ok (.iload_n 1, 1) := by decide +kernel
theorem d_MO_count_92 : decode b_MO_count 92 = .ok (.sipush 304, 3) := by decide +kernel
theorem d_MO_count_95 : decode b_MO_count 95 = .ok (.if_icmp .ge 14, 3) := by decide +kernel
theorem d_MO_count_98 : decode b_MO_count 98 = .ok (.aload_n 0, 1) := by decide +kernel
theorem d_MO_count_99 : decode b_MO_count 99 = .ok (.getfield 7, 3) := by decide +kernel
theorem d_MO_count_102 : decode b_MO_count 102 = .ok (.iload_n 1, 1) := by decide +kernel
theorem d_MO_count_103 : decode b_MO_count 103 = .ok (.sipush 300, 3) := by decide +kernel
theorem d_MO_count_106 : decode b_MO_count 106 = .ok (.isub, 1) := by decide +kernel
theorem d_MO_count_107 : decode b_MO_count 107 = .ok (.iaload, 1) := by decide +kernel
theorem d_MO_count_108 : decode b_MO_count 108 = .ok (.ireturn, 1) := by decide +kernel
theorem d_MO_count_109 : decode b_MO_count 109 = .ok (.iconst 0, 1) := by decide +kernel
theorem d_MO_count_110 : decode b_MO_count 110 = .ok (.istore_n 2, 1) := by decide +kernel
theorem d_MO_count_111 : decode b_MO_count 111 = .ok (.iconst 0, 1) := by decide +kernel
theorem d_MO_count_112 : decode b_MO_count 112 = .ok (.istore_n 3, 1) := by decide +kernel
theorem d_MO_count_113 : decode b_MO_count 113 = .ok (.iload_n 3, 1) := by decide +kernel
theorem d_MO_count_114 : decode b_MO_count 114 = .ok (.bipush 8, 2) := by decide +kernel
theorem d_MO_count_116 : decode b_MO_count 116 = .ok (.if_icmp .ge 27, 3) := by decide +kernel
theorem d_MO_count_119 : decode b_MO_count 119 = .ok (.iload_n 2, 1) := by decide +kernel
theorem d_MO_count_120 : decode b_MO_count 120 = .ok (.ifCond .ne 11, 3) := by decide +kernel
theorem d_MO_count_123 : decode b_MO_count 123 = .ok (.aload_n 0, 1) := by decide +kernel
theorem d_MO_count_124 : decode b_MO_count 124 = .ok (.iload_n 3, 1) := by decide +kernel
theorem d_MO_count_125 : decode b_MO_count 125 = .ok (.invokevirtual 249, 3) := by decide +kernel
theorem d_MO_count_128 : decode b_MO_count 128 = .ok (.ifCond .eq 7, 3) := by decide +kernel
theorem d_MO_count_131 : decode b_MO_count 131 = .ok (.iconst 1, 1) := by decide +kernel
theorem d_MO_count_132 : decode b_MO_count 132 = .ok (.goto 4, 3) := by decide +kernel
theorem d_MO_count_135 : decode b_MO_count 135 = .ok (.iconst 0, 1) := by decide +kernel
theorem d_MO_count_136 : decode b_MO_count 136 = .ok (.istore_n 2, 1) := by decide +kernel
theorem d_MO_count_137 : decode b_MO_count 137 = .ok (.iinc 3 1, 3) := by decide +kernel
theorem d_MO_count_140 : decode b_MO_count 140 = .ok (.goto (-27), 3) := by decide +kernel
theorem d_MO_count_143 : decode b_MO_count 143 = .ok (.iload_n 1, 1) := by decide +kernel
theorem d_MO_count_144 : decode b_MO_count 144 = .ok (.tableswitch 84 0 6 #[44, 49, 54, 59, 64, 69, 74], 44) := by decide +kernel
theorem d_MO_count_188 : decode b_MO_count 188 = .ok (.aload_n 0, 1) := by decide +kernel
theorem d_MO_count_189 : decode b_MO_count 189 = .ok (.getfield 223, 3) := by decide +kernel
theorem d_MO_count_192 : decode b_MO_count 192 = .ok (.ireturn, 1) := by decide +kernel
theorem d_MO_count_193 : decode b_MO_count 193 = .ok (.aload_n 0, 1) := by decide +kernel
theorem d_MO_count_194 : decode b_MO_count 194 = .ok (.getfield 217, 3) := by decide +kernel
theorem d_MO_count_197 : decode b_MO_count 197 = .ok (.ireturn, 1) := by decide +kernel
theorem d_MO_count_198 : decode b_MO_count 198 = .ok (.aload_n 0, 1) := by decide +kernel
theorem d_MO_count_199 : decode b_MO_count 199 = .ok (.getfield 214, 3) := by decide +kernel
theorem d_MO_count_202 : decode b_MO_count 202 = .ok (.ireturn, 1) := by decide +kernel
theorem d_MO_count_203 : decode b_MO_count 203 = .ok (.aload_n 0, 1) := by decide +kernel
theorem d_MO_count_204 : decode b_MO_count 204 = .ok (.getfield 220, 3) := by decide +kernel
theorem d_MO_count_207 : decode b_MO_count 207 = .ok (.ireturn, 1) := by decide +kernel
theorem d_MO_count_208 : decode b_MO_count 208 = .ok (.aload_n 0, 1) := by decide +kernel
theorem d_MO_count_209 : decode b_MO_count 209 = .ok (.getfield 255, 3) := by decide +kernel
theorem d_MO_count_212 : decode b_MO_count 212 = .ok (.ireturn, 1) := by decide +kernel
theorem d_MO_count_213 : decode b_MO_count 213 = .ok (.aload_n 0, 1) := by decide +kernel
theorem d_MO_count_214 : decode b_MO_count 214 = .ok (.getfield 286, 3) := by decide +kernel
theorem d_MO_count_217 : decode b_MO_count 217 = .ok (.ireturn, 1) := by decide +kernel
theorem d_MO_count_218 : decode b_MO_count 218 = .ok (.iload_n 2, 1) := by decide +kernel
theorem d_MO_count_219 : decode b_MO_count 219 = .ok (.ifCond .eq 7, 3) := by decide +kernel
theorem d_MO_count_222 : decode b_MO_count 222 = .ok (.iconst 1, 1) := by decide +kernel
theorem d_MO_count_223 : decode b_MO_count 223 = .ok (.goto 4, 3) := by decide +kernel
theorem d_MO_count_226 : decode b_MO_count 226 = .ok (.iconst 0, 1) := by decide +kernel
theorem d_MO_count_227 : decode b_MO_count 227 = .ok (.ireturn, 1) := by decide +kernel
theorem d_MO_count_228 : decode b_MO_count 228 = .ok (.iconst (-1), 1) := by decide +kernel
theorem d_MO_count_229 : decode b_MO_count 229 = .ok (.ireturn, 1) := by decide +kernel
end
section
theorem d_LA_channel_0 : decode b_LA_channel 0 = .ok (.aload 6, 2) := by decide +kernel
theorem d_LA_channel_2 : decode b_LA_channel 2 = .ok (.iconst 0, 1) := by decide +kernel
theorem d_LA_channel_3 : decode b_LA_channel 3 = .ok (.aload_n 0, 1) := by decide +kernel
theorem d_LA_channel_4 : decode b_LA_channel 4 = .ok (.iload_n 1, 1) := by decide +kernel
theorem d_LA_channel_5 : decode b_LA_channel 5 = .ok (.iload_n 2, 1) := by decide +kernel
theorem d_LA_channel_6 : decode b_LA_channel 6 = .ok (.iload_n 3, 1) := by decide +kernel
theorem d_LA_channel_7 : decode b_LA_channel 7 = .ok (.iload 4, 2) := by decide +kernel
theorem d_LA_channel_9 : decode b_LA_channel 9 = .ok (.iload 5, 2) := by decide +kernel
theorem d_LA_channel_11 : decode b_LA_channel 11 = .ok (.invokevirtual 7, 3) := by decide +kernel
theorem d_LA_channel_14 : decode b_LA_channel 14 = .ok (.i2l, 1) := by decide +kernel
theorem d_LA_channel_15 : decode b_LA_channel 15 = .ok (.lastore, 1) := by decide +kernel
theorem d_LA_channel_16 : decode b_LA_channel 16 = .ok (.goto 11, 3) := by decide +kernel
theorem d_LA_channel_19 : decode b_LA_channel 19 = .ok (.astore 7, 2) := by decide +kernel
theorem d_LA_channel_21 : decode b_LA_channel 21 = .ok (.iconst 1, 1) := by decide +kernel
theorem d_LA_channel_22 : decode b_LA_channel 22 = .ok (.ireturn, 1) := by decide +kernel
theorem d_LA_channel_23 : decode b_LA_channel 23 = .ok (.astore 7, 2) := by decide +kernel
theorem d_LA_channel_25 : decode b_LA_channel 25 = .ok (.iconst 2, 1) := by decide +kernel
theorem d_LA_channel_26 : decode b_LA_channel 26 = .ok (.ireturn, 1) := by decide +kernel
theorem d_LA_channel_27 : decode b_LA_channel 27 = .ok (.iconst 0, 1) := by decide +kernel
theorem d_LA_channel_28 : decode b_LA_channel 28 = .ok (.ireturn, 1) := by decide +kernel
theorem d_LA_tick_0 : decode b_LA_tick 0 = .ok (.aload_n 2, 1) := by decide +kernel
theorem d_LA_tick_1 : decode b_LA_tick 1 = .ok (.iconst 0, 1) := by decide +kernel
theorem d_LA_tick_2 : decode b_LA_tick 2 = .ok (.aload_n 0, 1) := by decide +kernel
theorem d_LA_tick_3 : decode b_LA_tick 3 = .ok (.iload_n 1, 1) := by decide +kernel
theorem d_LA_tick_4 : decode b_LA_tick 4 = .ok (.invokevirtual 17, 3) := by decide +kernel
theorem d_LA_tick_7 : decode b_LA_tick 7 = .ok (.i2l, 1) := by decide +kernel
theorem d_LA_tick_8 : decode b_LA_tick 8 = .ok (.lastore, 1) := by decide +kernel
theorem d_LA_tick_9 : decode b_LA_tick 9 = .ok (.goto 6, 3) := by decide +kernel
theorem d_LA_tick_12 : decode b_LA_tick 12 = .ok (.astore_n 3, 1) := by decide +kernel
theorem d_LA_tick_13 : decode b_LA_tick 13 = .ok (.iconst 1, 1) := by decide +kernel
theorem d_LA_tick_14 : decode b_LA_tick 14 = .ok (.ireturn, 1) := by decide +kernel
theorem d_LA_tick_15 : decode b_LA_tick 15 = .ok (.iconst 0, 1) := by decide +kernel
theorem d_LA_tick_16 : decode b_LA_tick 16 = .ok (.ireturn, 1) := by decide +kernel
theorem d_LA_bind_0 : decode b_LA_bind 0 = .ok (.aload_n 3, 1) := by decide +kernel
theorem d_LA_bind_1 : decode b_LA_bind 1 = .ok (.iconst 0, 1) := by decide +kernel
theorem d_LA_bind_2 : decode b_LA_bind 2 = .ok (.aload_n 0, 1) := by decide +kernel
theorem d_LA_bind_3 : decode b_LA_bind 3 = .ok (.iload_n 1, 1) := by decide +kernel
theorem d_LA_bind_4 : decode b_LA_bind 4 = .ok (.iload_n 2, 1) := by decide +kernel
theorem d_LA_bind_5 : decode b_LA_bind 5 = .ok (.invokevirtual 21, 3) := by decide +kernel
theorem d_LA_bind_8 : decode b_LA_bind 8 = .ok (.i2l, 1) := by decide +kernel
theorem d_LA_bind_9 : decode b_LA_bind 9 = .ok (.lastore, 1) := by decide +kernel
theorem d_LA_bind_10 : decode b_LA_bind 10 = .ok (.goto 11, 3) := by decide +kernel
theorem d_LA_bind_13 : decode b_LA_bind 13 = .ok (.astore 4, 2) := by decide +kernel
theorem d_LA_bind_15 : decode b_LA_bind 15 = .ok (.iconst 1, 1) := by decide +kernel
theorem d_LA_bind_16 : decode b_LA_bind 16 = .ok (.ireturn, 1) := by decide +kernel
theorem d_LA_bind_17 : decode b_LA_bind 17 = .ok (.astore 4, 2) := by decide +kernel
theorem d_LA_bind_19 : decode b_LA_bind 19 = .ok (.iconst 2, 1) := by decide +kernel
theorem d_LA_bind_20 : decode b_LA_bind 20 = .ok (.ireturn, 1) := by decide +kernel
theorem d_LA_bind_21 : decode b_LA_bind 21 = .ok (.iconst 0, 1) := by decide +kernel
theorem d_LA_bind_22 : decode b_LA_bind 22 = .ok (.ireturn, 1) := by decide +kernel
theorem d_LA_shown_0 : decode b_LA_shown 0 = .ok (.aload_n 3, 1) := by decide +kernel
theorem d_LA_shown_1 : decode b_LA_shown 1 = .ok (.iconst 0, 1) := by decide +kernel
theorem d_LA_shown_2 : decode b_LA_shown 2 = .ok (.aload_n 0, 1) := by decide +kernel
theorem d_LA_shown_3 : decode b_LA_shown 3 = .ok (.iload_n 1, 1) := by decide +kernel
theorem d_LA_shown_4 : decode b_LA_shown 4 = .ok (.iload_n 2, 1) := by decide +kernel
theorem d_LA_shown_5 : decode b_LA_shown 5 = .ok (.invokevirtual 25, 3) := by decide +kernel
theorem d_LA_shown_8 : decode b_LA_shown 8 = .ok (.i2l, 1) := by decide +kernel
theorem d_LA_shown_9 : decode b_LA_shown 9 = .ok (.lastore, 1) := by decide +kernel
theorem d_LA_shown_10 : decode b_LA_shown 10 = .ok (.goto 11, 3) := by decide +kernel
theorem d_LA_shown_13 : decode b_LA_shown 13 = .ok (.astore 4, 2) := by decide +kernel
theorem d_LA_shown_15 : decode b_LA_shown 15 = .ok (.iconst 1, 1) := by decide +kernel
theorem d_LA_shown_16 : decode b_LA_shown 16 = .ok (.ireturn, 1) := by decide +kernel
theorem d_LA_shown_17 : decode b_LA_shown 17 = .ok (.astore 4, 2) := by decide +kernel
theorem d_LA_shown_19 : decode b_LA_shown 19 = .ok (.iconst 2, 1) := by decide +kernel
theorem d_LA_shown_20 : decode b_LA_shown 20 = .ok (.ireturn, 1) := by decide +kernel
theorem d_LA_shown_21 : decode b_LA_shown 21 = .ok (.iconst 0, 1) := by decide +kernel
theorem d_LA_shown_22 : decode b_LA_shown 22 = .ok (.ireturn, 1) := by decide +kernel
theorem d_LA_order_0 : decode b_LA_order 0 = .ok (.aload 5, 2) := by decide +kernel
theorem d_LA_order_2 : decode b_LA_order 2 = .ok (.iconst 0, 1) := by decide +kernel
theorem d_LA_order_3 : decode b_LA_order 3 = .ok (.aload_n 0, 1) := by decide +kernel
theorem d_LA_order_4 : decode b_LA_order 4 = .ok (.iload_n 1, 1) := by decide +kernel
theorem d_LA_order_5 : decode b_LA_order 5 = .ok (.iload_n 2, 1) := by decide +kernel
theorem d_LA_order_6 : decode b_LA_order 6 = .ok (.iload_n 3, 1) := by decide +kernel
theorem d_LA_order_7 : decode b_LA_order 7 = .ok (.iload 4, 2) := by decide +kernel
theorem d_LA_order_9 : decode b_LA_order 9 = .ok (.invokevirtual 32, 3) := by decide +kernel
theorem d_LA_order_12 : decode b_LA_order 12 = .ok (.i2l, 1) := by decide +kernel
theorem d_LA_order_13 : decode b_LA_order 13 = .ok (.lastore, 1) := by decide +kernel
theorem d_LA_order_14 : decode b_LA_order 14 = .ok (.goto 11, 3) := by decide +kernel
theorem d_LA_order_17 : decode b_LA_order 17 = .ok (.astore 6, 2) := by decide +kernel
theorem d_LA_order_19 : decode b_LA_order 19 = .ok (.iconst 1, 1) := by decide +kernel
theorem d_LA_order_20 : decode b_LA_order 20 = .ok (.ireturn, 1) := by decide +kernel
theorem d_LA_order_21 : decode b_LA_order 21 = .ok (.astore 6, 2) := by decide +kernel
theorem d_LA_order_23 : decode b_LA_order 23 = .ok (.iconst 2, 1) := by decide +kernel
theorem d_LA_order_24 : decode b_LA_order 24 = .ok (.ireturn, 1) := by decide +kernel
theorem d_LA_order_25 : decode b_LA_order 25 = .ok (.iconst 0, 1) := by decide +kernel
theorem d_LA_order_26 : decode b_LA_order 26 = .ok (.ireturn, 1) := by decide +kernel
theorem d_LA_look_0 : decode b_LA_look 0 = .ok (.aload_n 3, 1) := by decide +kernel
theorem d_LA_look_1 : decode b_LA_look 1 = .ok (.iconst 0, 1) := by decide +kernel
theorem d_LA_look_2 : decode b_LA_look 2 = .ok (.aload_n 0, 1) := by decide +kernel
theorem d_LA_look_3 : decode b_LA_look 3 = .ok (.iload_n 1, 1) := by decide +kernel
theorem d_LA_look_4 : decode b_LA_look 4 = .ok (.iload_n 2, 1) := by decide +kernel
theorem d_LA_look_5 : decode b_LA_look 5 = .ok (.invokevirtual 36, 3) := by decide +kernel
theorem d_LA_look_8 : decode b_LA_look 8 = .ok (.i2l, 1) := by decide +kernel
theorem d_LA_look_9 : decode b_LA_look 9 = .ok (.lastore, 1) := by decide +kernel
theorem d_LA_look_10 : decode b_LA_look 10 = .ok (.goto 7, 3) := by decide +kernel
theorem d_LA_look_13 : decode b_LA_look 13 = .ok (.astore 4, 2) := by decide +kernel
theorem d_LA_look_15 : decode b_LA_look 15 = .ok (.iconst 1, 1) := by decide +kernel
theorem d_LA_look_16 : decode b_LA_look 16 = .ok (.ireturn, 1) := by decide +kernel
theorem d_LA_look_17 : decode b_LA_look 17 = .ok (.iconst 0, 1) := by decide +kernel
theorem d_LA_look_18 : decode b_LA_look 18 = .ok (.ireturn, 1) := by decide +kernel
theorem d_LA_message_0 : decode b_LA_message 0 = .ok (.aload_n 3, 1) := by decide +kernel
theorem d_LA_message_1 : decode b_LA_message 1 = .ok (.iconst 0, 1) := by decide +kernel
theorem d_LA_message_2 : decode b_LA_message 2 = .ok (.aload_n 0, 1) := by decide +kernel
theorem d_LA_message_3 : decode b_LA_message 3 = .ok (.iload_n 1, 1) := by decide +kernel
theorem d_LA_message_4 : decode b_LA_message 4 = .ok (.iload_n 2, 1) := by decide +kernel
theorem d_LA_message_5 : decode b_LA_message 5 = .ok (.invokevirtual 39, 3) := by decide +kernel
theorem d_LA_message_8 : decode b_LA_message 8 = .ok (.i2l, 1) := by decide +kernel
theorem d_LA_message_9 : decode b_LA_message 9 = .ok (.lastore, 1) := by decide +kernel
theorem d_LA_message_10 : decode b_LA_message 10 = .ok (.goto 11, 3) := by decide +kernel
theorem d_LA_message_13 : decode b_LA_message 13 = .ok (.astore 4, 2) := by decide +kernel
theorem d_LA_message_15 : decode b_LA_message 15 = .ok (.iconst 1, 1) := by decide +kernel
theorem d_LA_message_16 : decode b_LA_message 16 = .ok (.ireturn, 1) := by decide +kernel
theorem d_LA_message_17 : decode b_LA_message 17 = .ok (.astore 4, 2) := by decide +kernel
theorem d_LA_message_19 : decode b_LA_message 19 = .ok (.iconst 2, 1) := by decide +kernel
theorem d_LA_message_20 : decode b_LA_message 20 = .ok (.ireturn, 1) := by decide +kernel
theorem d_LA_message_21 : decode b_LA_message 21 = .ok (.iconst 0, 1) := by decide +kernel
theorem d_LA_message_22 : decode b_LA_message 22 = .ok (.ireturn, 1) := by decide +kernel
theorem d_LA_law_0 : decode b_LA_law 0 = .ok (.new 8, 3) := by decide +kernel
theorem d_LA_law_3 : decode b_LA_law 3 = .ok (.dup, 1) := by decide +kernel
theorem d_LA_law_4 : decode b_LA_law 4 = .ok (.invokespecial 42, 3) := by decide +kernel
theorem d_LA_law_7 : decode b_LA_law 7 = .ok (.astore_n 1, 1) := by decide +kernel
theorem d_LA_law_8 : decode b_LA_law 8 = .ok (.new 43, 3) := by decide +kernel
theorem d_LA_law_11 : decode b_LA_law 11 = .ok (.dup, 1) := by decide +kernel
theorem d_LA_law_12 : decode b_LA_law 12 = .ok (.invokespecial 45, 3) := by decide +kernel
theorem d_LA_law_15 : decode b_LA_law 15 = .ok (.astore_n 2, 1) := by decide +kernel
theorem d_LA_law_16 : decode b_LA_law 16 = .ok (.iconst 1, 1) := by decide +kernel
theorem d_LA_law_17 : decode b_LA_law 17 = .ok (.newarray .long, 2) := by decide +kernel
theorem d_LA_law_19 : decode b_LA_law 19 = .ok (.astore_n 3, 1) := by decide +kernel
theorem d_LA_law_20 : decode b_LA_law 20 = .ok (.iconst 0, 1) := by decide +kernel
theorem d_LA_law_21 : decode b_LA_law 21 = .ok (.istore 4, 2) := by decide +kernel
theorem d_LA_law_23 : decode b_LA_law 23 = .ok (.iload 4, 2) := by decide +kernel
theorem d_LA_law_25 : decode b_LA_law 25 = .ok (.aload_n 0, 1) := by decide +kernel
theorem d_LA_law_26 : decode b_LA_law 26 = .ok (.arraylength, 1) := by decide +kernel
theorem d_LA_law_27 : decode b_LA_law 27 = .ok (.bipush 6, 2) := by decide +kernel
theorem d_LA_law_29 : decode b_LA_law 29 = .ok (.isub, 1) := by decide +kernel
theorem d_LA_law_30 : decode b_LA_law 30 = .ok (.if_icmp .gt 1308, 3) := by decide +kernel
theorem d_LA_law_33 : decode b_LA_law 33 = .ok (.aload_n 0, 1) := by decide +kernel
theorem d_LA_law_34 : decode b_LA_law 34 = .ok (.iload 4, 2) := by decide +kernel
theorem d_LA_law_36 : decode b_LA_law 36 = .ok (.iaload, 1) := by decide +kernel
theorem d_LA_law_37 : decode b_LA_law 37 = .ok (.bipush 31, 2) := by decide +kernel
theorem d_LA_law_39 : decode b_LA_law 39 = .ok (.iand, 1) := by decide +kernel
theorem d_LA_law_40 : decode b_LA_law 40 = .ok (.tableswitch 1292 0 22 #[108, 145, 249, 322, 383, 408, 445, 482, 507, 556, 612, 665, 690, 758, 826, 863, 912, 949, 1041, 1106, 1131, 1199, 1267], 108) := by decide +kernel
theorem d_LA_law_148 : decode b_LA_law 148 = .ok (.aload_n 1, 1) := by decide +kernel
theorem d_LA_law_149 : decode b_LA_law 149 = .ok (.aload_n 0, 1) := by decide +kernel
theorem d_LA_law_150 : decode b_LA_law 150 = .ok (.iload 4, 2) := by decide +kernel
theorem d_LA_law_152 : decode b_LA_law 152 = .ok (.iconst 1, 1) := by decide +kernel
theorem d_LA_law_153 : decode b_LA_law 153 = .ok (.iadd, 1) := by decide +kernel
theorem d_LA_law_154 : decode b_LA_law 154 = .ok (.iaload, 1) := by decide +kernel
theorem d_LA_law_155 : decode b_LA_law 155 = .ok (.aload_n 0, 1) := by decide +kernel
theorem d_LA_law_156 : decode b_LA_law 156 = .ok (.iload 4, 2) := by decide +kernel
theorem d_LA_law_158 : decode b_LA_law 158 = .ok (.iconst 2, 1) := by decide +kernel
theorem d_LA_law_159 : decode b_LA_law 159 = .ok (.iadd, 1) := by decide +kernel
theorem d_LA_law_160 : decode b_LA_law 160 = .ok (.iaload, 1) := by decide +kernel
theorem d_LA_law_161 : decode b_LA_law 161 = .ok (.invokevirtual 46, 3) := by decide +kernel
theorem d_LA_law_164 : decode b_LA_law 164 = .ok (.aload_n 2, 1) := by decide +kernel
theorem d_LA_law_165 : decode b_LA_law 165 = .ok (.aload_n 0, 1) := by decide +kernel
theorem d_LA_law_166 : decode b_LA_law 166 = .ok (.iload 4, 2) := by decide +kernel
theorem d_LA_law_168 : decode b_LA_law 168 = .ok (.iconst 1, 1) := by decide +kernel
theorem d_LA_law_169 : decode b_LA_law 169 = .ok (.iadd, 1) := by decide +kernel
theorem d_LA_law_170 : decode b_LA_law 170 = .ok (.iaload, 1) := by decide +kernel
theorem d_LA_law_171 : decode b_LA_law 171 = .ok (.aload_n 0, 1) := by decide +kernel
theorem d_LA_law_172 : decode b_LA_law 172 = .ok (.iload 4, 2) := by decide +kernel
theorem d_LA_law_174 : decode b_LA_law 174 = .ok (.iconst 2, 1) := by decide +kernel
theorem d_LA_law_175 : decode b_LA_law 175 = .ok (.iadd, 1) := by decide +kernel
theorem d_LA_law_176 : decode b_LA_law 176 = .ok (.iaload, 1) := by decide +kernel
theorem d_LA_law_177 : decode b_LA_law 177 = .ok (.invokevirtual 50, 3) := by decide +kernel
theorem d_LA_law_180 : decode b_LA_law 180 = .ok (.if_icmp .eq 1152, 3) := by decide +kernel
theorem d_LA_law_183 : decode b_LA_law 183 = .ok (.iconst 0, 1) := by decide +kernel
theorem d_LA_law_184 : decode b_LA_law 184 = .ok (.ireturn, 1) := by decide +kernel
theorem d_LA_law_185 : decode b_LA_law 185 = .ok (.aload_n 1, 1) := by decide +kernel
theorem d_LA_law_186 : decode b_LA_law 186 = .ok (.aload_n 0, 1) := by decide +kernel
theorem d_LA_law_187 : decode b_LA_law 187 = .ok (.iload 4, 2) := by decide +kernel
theorem d_LA_law_189 : decode b_LA_law 189 = .ok (.iconst 1, 1) := by decide +kernel
theorem d_LA_law_190 : decode b_LA_law 190 = .ok (.iadd, 1) := by decide +kernel
theorem d_LA_law_191 : decode b_LA_law 191 = .ok (.iaload, 1) := by decide +kernel
theorem d_LA_law_192 : decode b_LA_law 192 = .ok (.aload_n 0, 1) := by decide +kernel
theorem d_LA_law_193 : decode b_LA_law 193 = .ok (.iload 4, 2) := by decide +kernel
theorem d_LA_law_195 : decode b_LA_law 195 = .ok (.iconst 2, 1) := by decide +kernel
theorem d_LA_law_196 : decode b_LA_law 196 = .ok (.iadd, 1) := by decide +kernel
theorem d_LA_law_197 : decode b_LA_law 197 = .ok (.iaload, 1) := by decide +kernel
theorem d_LA_law_198 : decode b_LA_law 198 = .ok (.aload_n 0, 1) := by decide +kernel
theorem d_LA_law_199 : decode b_LA_law 199 = .ok (.iload 4, 2) := by decide +kernel
theorem d_LA_law_201 : decode b_LA_law 201 = .ok (.iconst 3, 1) := by decide +kernel
theorem d_LA_law_202 : decode b_LA_law 202 = .ok (.iadd, 1) := by decide +kernel
theorem d_LA_law_203 : decode b_LA_law 203 = .ok (.iaload, 1) := by decide +kernel
theorem d_LA_law_204 : decode b_LA_law 204 = .ok (.aload_n 0, 1) := by decide +kernel
theorem d_LA_law_205 : decode b_LA_law 205 = .ok (.iload 4, 2) := by decide +kernel
theorem d_LA_law_207 : decode b_LA_law 207 = .ok (.iconst 4, 1) := by decide +kernel
theorem d_LA_law_208 : decode b_LA_law 208 = .ok (.iadd, 1) := by decide +kernel
theorem d_LA_law_209 : decode b_LA_law 209 = .ok (.iaload, 1) := by decide +kernel
theorem d_LA_law_210 : decode b_LA_law 210 = .ok (.aload_n 0, 1) := by decide +kernel
theorem d_LA_law_211 : decode b_LA_law 211 = .ok (.iload 4, 2) := by decide +kernel
theorem d_LA_law_213 : decode b_LA_law 213 = .ok (.iconst 5, 1) := by decide +kernel
theorem d_LA_law_214 : decode b_LA_law 214 = .ok (.iadd, 1) := by decide +kernel
theorem d_LA_law_215 : decode b_LA_law 215 = .ok (.iaload, 1) := by decide +kernel
theorem d_LA_law_216 : decode b_LA_law 216 = .ok (.aload_n 3, 1) := by decide +kernel
theorem d_LA_law_217 : decode b_LA_law 217 = .ok (.invokestatic 51, 3) := by decide +kernel
theorem d_LA_law_220 : decode b_LA_law 220 = .ok (.istore 5, 2) := by decide +kernel
theorem d_LA_law_222 : decode b_LA_law 222 = .ok (.aload_n 2, 1) := by decide +kernel
theorem d_LA_law_223 : decode b_LA_law 223 = .ok (.aload_n 0, 1) := by decide +kernel
theorem d_LA_law_224 : decode b_LA_law 224 = .ok (.iload 4, 2) := by decide +kernel
theorem d_LA_law_226 : decode b_LA_law 226 = .ok (.iconst 1, 1) := by decide +kernel
theorem d_LA_law_227 : decode b_LA_law 227 = .ok (.iadd, 1) := by decide +kernel
theorem d_LA_law_228 : decode b_LA_law 228 = .ok (.iaload, 1) := by decide +kernel
theorem d_LA_law_229 : decode b_LA_law 229 = .ok (.aload_n 0, 1) := by decide +kernel
theorem d_LA_law_230 : decode b_LA_law 230 = .ok (.iload 4, 2) := by decide +kernel
theorem d_LA_law_232 : decode b_LA_law 232 = .ok (.iconst 2, 1) := by decide +kernel
theorem d_LA_law_233 : decode b_LA_law 233 = .ok (.iadd, 1) := by decide +kernel
theorem d_LA_law_234 : decode b_LA_law 234 = .ok (.iaload, 1) := by decide +kernel
theorem d_LA_law_235 : decode b_LA_law 235 = .ok (.aload_n 0, 1) := by decide +kernel
theorem d_LA_law_236 : decode b_LA_law 236 = .ok (.iload 4, 2) := by decide +kernel
theorem d_LA_law_238 : decode b_LA_law 238 = .ok (.iconst 3, 1) := by decide +kernel
theorem d_LA_law_239 : decode b_LA_law 239 = .ok (.iadd, 1) := by decide +kernel
theorem d_LA_law_240 : decode b_LA_law 240 = .ok (.iaload, 1) := by decide +kernel
theorem d_LA_law_241 : decode b_LA_law 241 = .ok (.aload_n 0, 1) := by decide +kernel
theorem d_LA_law_242 : decode b_LA_law 242 = .ok (.iload 4, 2) := by decide +kernel
theorem d_LA_law_244 : decode b_LA_law 244 = .ok (.iconst 4, 1) := by decide +kernel
theorem d_LA_law_245 : decode b_LA_law 245 = .ok (.iadd, 1) := by decide +kernel
theorem d_LA_law_246 : decode b_LA_law 246 = .ok (.iaload, 1) := by decide +kernel
theorem d_LA_law_247 : decode b_LA_law 247 = .ok (.aload_n 0, 1) := by decide +kernel
theorem d_LA_law_248 : decode b_LA_law 248 = .ok (.iload 4, 2) := by decide +kernel
theorem d_LA_law_250 : decode b_LA_law 250 = .ok (.iconst 5, 1) := by decide +kernel
theorem d_LA_law_251 : decode b_LA_law 251 = .ok (.iadd, 1) := by decide +kernel
theorem d_LA_law_252 : decode b_LA_law 252 = .ok (.iaload, 1) := by decide +kernel
theorem d_LA_law_253 : decode b_LA_law 253 = .ok (.invokevirtual 56, 3) := by decide +kernel
theorem d_LA_law_256 : decode b_LA_law 256 = .ok (.istore 6, 2) := by decide +kernel
theorem d_LA_law_258 : decode b_LA_law 258 = .ok (.aload_n 2, 1) := by decide +kernel
theorem d_LA_law_259 : decode b_LA_law 259 = .ok (.invokevirtual 57, 3) := by decide +kernel
theorem d_LA_law_262 : decode b_LA_law 262 = .ok (.iload 5, 2) := by decide +kernel
theorem d_LA_law_264 : decode b_LA_law 264 = .ok (.if_icmp .eq 5, 3) := by decide +kernel
theorem d_LA_law_267 : decode b_LA_law 267 = .ok (.iconst 0, 1) := by decide +kernel
theorem d_LA_law_268 : decode b_LA_law 268 = .ok (.ireturn, 1) := by decide +kernel
theorem d_LA_law_269 : decode b_LA_law 269 = .ok (.iload 5, 2) := by decide +kernel
theorem d_LA_law_271 : decode b_LA_law 271 = .ok (.ifCond .ne 15, 3) := by decide +kernel
theorem d_LA_law_274 : decode b_LA_law 274 = .ok (.aload_n 3, 1) := by decide +kernel
theorem d_LA_law_275 : decode b_LA_law 275 = .ok (.iconst 0, 1) := by decide +kernel
theorem d_LA_law_276 : decode b_LA_law 276 = .ok (.laload, 1) := by decide +kernel
theorem d_LA_law_277 : decode b_LA_law 277 = .ok (.iload 6, 2) := by decide +kernel
theorem d_LA_law_279 : decode b_LA_law 279 = .ok (.i2l, 1) := by decide +kernel
theorem d_LA_law_280 : decode b_LA_law 280 = .ok (.lcmp, 1) := by decide +kernel
theorem d_LA_law_281 : decode b_LA_law 281 = .ok (.ifCond .eq 5, 3) := by decide +kernel
theorem d_LA_law_284 : decode b_LA_law 284 = .ok (.iconst 0, 1) := by decide +kernel
theorem d_LA_law_285 : decode b_LA_law 285 = .ok (.ireturn, 1) := by decide +kernel
theorem d_LA_law_286 : decode b_LA_law 286 = .ok (.goto 1046, 3) := by decide +kernel
theorem d_LA_law_289 : decode b_LA_law 289 = .ok (.aload_n 1, 1) := by decide +kernel
theorem d_LA_law_290 : decode b_LA_law 290 = .ok (.aload_n 0, 1) := by decide +kernel
theorem d_LA_law_291 : decode b_LA_law 291 = .ok (.iload 4, 2) := by decide +kernel
theorem d_LA_law_293 : decode b_LA_law 293 = .ok (.iconst 1, 1) := by decide +kernel
theorem d_LA_law_294 : decode b_LA_law 294 = .ok (.iadd, 1) := by decide +kernel
theorem d_LA_law_295 : decode b_LA_law 295 = .ok (.iaload, 1) := by decide +kernel
theorem d_LA_law_296 : decode b_LA_law 296 = .ok (.aload_n 0, 1) := by decide +kernel
theorem d_LA_law_297 : decode b_LA_law 297 = .ok (.iload 4, 2) := by decide +kernel
theorem d_LA_law_299 : decode b_LA_law 299 = .ok (.iconst 2, 1) := by decide +kernel
theorem d_LA_law_300 : decode b_LA_law 300 = .ok (.iadd, 1) := by decide +kernel
theorem d_LA_law_301 : decode b_LA_law 301 = .ok (.iaload, 1) := by decide +kernel
theorem d_LA_law_302 : decode b_LA_law 302 = .ok (.aload_n 0, 1) := by decide +kernel
theorem d_LA_law_303 : decode b_LA_law 303 = .ok (.iload 4, 2) := by decide +kernel
theorem d_LA_law_305 : decode b_LA_law 305 = .ok (.iconst 3, 1) := by decide +kernel
theorem d_LA_law_306 : decode b_LA_law 306 = .ok (.iadd, 1) := by decide +kernel
theorem d_LA_law_307 : decode b_LA_law 307 = .ok (.iaload, 1) := by decide +kernel
theorem d_LA_law_308 : decode b_LA_law 308 = .ok (.aload_n 0, 1) := by decide +kernel
theorem d_LA_law_309 : decode b_LA_law 309 = .ok (.iload 4, 2) := by decide +kernel
theorem d_LA_law_311 : decode b_LA_law 311 = .ok (.iconst 4, 1) := by decide +kernel
theorem d_LA_law_312 : decode b_LA_law 312 = .ok (.iadd, 1) := by decide +kernel
theorem d_LA_law_313 : decode b_LA_law 313 = .ok (.iaload, 1) := by decide +kernel
theorem d_LA_law_314 : decode b_LA_law 314 = .ok (.aload_n 0, 1) := by decide +kernel
theorem d_LA_law_315 : decode b_LA_law 315 = .ok (.iload 4, 2) := by decide +kernel
theorem d_LA_law_317 : decode b_LA_law 317 = .ok (.iconst 5, 1) := by decide +kernel
theorem d_LA_law_318 : decode b_LA_law 318 = .ok (.iadd, 1) := by decide +kernel
theorem d_LA_law_319 : decode b_LA_law 319 = .ok (.iaload, 1) := by decide +kernel
theorem d_LA_law_320 : decode b_LA_law 320 = .ok (.invokevirtual 61, 3) := by decide +kernel
theorem d_LA_law_323 : decode b_LA_law 323 = .ok (.aload_n 2, 1) := by decide +kernel
theorem d_LA_law_324 : decode b_LA_law 324 = .ok (.aload_n 0, 1) := by decide +kernel
theorem d_LA_law_325 : decode b_LA_law 325 = .ok (.iload 4, 2) := by decide +kernel
theorem d_LA_law_327 : decode b_LA_law 327 = .ok (.iconst 1, 1) := by decide +kernel
theorem d_LA_law_328 : decode b_LA_law 328 = .ok (.iadd, 1) := by decide +kernel
theorem d_LA_law_329 : decode b_LA_law 329 = .ok (.iaload, 1) := by decide +kernel
theorem d_LA_law_330 : decode b_LA_law 330 = .ok (.aload_n 0, 1) := by decide +kernel
theorem d_LA_law_331 : decode b_LA_law 331 = .ok (.iload 4, 2) := by decide +kernel
theorem d_LA_law_333 : decode b_LA_law 333 = .ok (.iconst 2, 1) := by decide +kernel
theorem d_LA_law_334 : decode b_LA_law 334 = .ok (.iadd, 1) := by decide +kernel
theorem d_LA_law_335 : decode b_LA_law 335 = .ok (.iaload, 1) := by decide +kernel
theorem d_LA_law_336 : decode b_LA_law 336 = .ok (.aload_n 0, 1) := by decide +kernel
theorem d_LA_law_337 : decode b_LA_law 337 = .ok (.iload 4, 2) := by decide +kernel
theorem d_LA_law_339 : decode b_LA_law 339 = .ok (.iconst 3, 1) := by decide +kernel
theorem d_LA_law_340 : decode b_LA_law 340 = .ok (.iadd, 1) := by decide +kernel
theorem d_LA_law_341 : decode b_LA_law 341 = .ok (.iaload, 1) := by decide +kernel
theorem d_LA_law_342 : decode b_LA_law 342 = .ok (.aload_n 0, 1) := by decide +kernel
theorem d_LA_law_343 : decode b_LA_law 343 = .ok (.iload 4, 2) := by decide +kernel
theorem d_LA_law_345 : decode b_LA_law 345 = .ok (.iconst 4, 1) := by decide +kernel
theorem d_LA_law_346 : decode b_LA_law 346 = .ok (.iadd, 1) := by decide +kernel
theorem d_LA_law_347 : decode b_LA_law 347 = .ok (.iaload, 1) := by decide +kernel
theorem d_LA_law_348 : decode b_LA_law 348 = .ok (.aload_n 0, 1) := by decide +kernel
theorem d_LA_law_349 : decode b_LA_law 349 = .ok (.iload 4, 2) := by decide +kernel
theorem d_LA_law_351 : decode b_LA_law 351 = .ok (.iconst 5, 1) := by decide +kernel
theorem d_LA_law_352 : decode b_LA_law 352 = .ok (.iadd, 1) := by decide +kernel
theorem d_LA_law_353 : decode b_LA_law 353 = .ok (.iaload, 1) := by decide +kernel
theorem d_LA_law_354 : decode b_LA_law 354 = .ok (.invokevirtual 65, 3) := by decide +kernel
theorem d_LA_law_357 : decode b_LA_law 357 = .ok (.if_icmp .eq 975, 3) := by decide +kernel
theorem d_LA_law_360 : decode b_LA_law 360 = .ok (.iconst 0, 1) := by decide +kernel
theorem d_LA_law_361 : decode b_LA_law 361 = .ok (.ireturn, 1) := by decide +kernel
theorem d_LA_law_362 : decode b_LA_law 362 = .ok (.aload_n 1, 1) := by decide +kernel
theorem d_LA_law_363 : decode b_LA_law 363 = .ok (.aload_n 0, 1) := by decide +kernel
theorem d_LA_law_364 : decode b_LA_law 364 = .ok (.iload 4, 2) := by decide +kernel
theorem d_LA_law_366 : decode b_LA_law 366 = .ok (.iconst 1, 1) := by decide +kernel
theorem d_LA_law_367 : decode b_LA_law 367 = .ok (.iadd, 1) := by decide +kernel
theorem d_LA_law_368 : decode b_LA_law 368 = .ok (.iaload, 1) := by decide +kernel
theorem d_LA_law_369 : decode b_LA_law 369 = .ok (.aload_n 0, 1) := by decide +kernel
theorem d_LA_law_370 : decode b_LA_law 370 = .ok (.iload 4, 2) := by decide +kernel
theorem d_LA_law_372 : decode b_LA_law 372 = .ok (.iconst 2, 1) := by decide +kernel
theorem d_LA_law_373 : decode b_LA_law 373 = .ok (.iadd, 1) := by decide +kernel
theorem d_LA_law_374 : decode b_LA_law 374 = .ok (.iaload, 1) := by decide +kernel
theorem d_LA_law_375 : decode b_LA_law 375 = .ok (.aload_n 0, 1) := by decide +kernel
theorem d_LA_law_376 : decode b_LA_law 376 = .ok (.iload 4, 2) := by decide +kernel
theorem d_LA_law_378 : decode b_LA_law 378 = .ok (.iconst 3, 1) := by decide +kernel
theorem d_LA_law_379 : decode b_LA_law 379 = .ok (.iadd, 1) := by decide +kernel
theorem d_LA_law_380 : decode b_LA_law 380 = .ok (.iaload, 1) := by decide +kernel
theorem d_LA_law_381 : decode b_LA_law 381 = .ok (.aload_n 0, 1) := by decide +kernel
theorem d_LA_law_382 : decode b_LA_law 382 = .ok (.iload 4, 2) := by decide +kernel
theorem d_LA_law_384 : decode b_LA_law 384 = .ok (.iconst 4, 1) := by decide +kernel
theorem d_LA_law_385 : decode b_LA_law 385 = .ok (.iadd, 1) := by decide +kernel
theorem d_LA_law_386 : decode b_LA_law 386 = .ok (.iaload, 1) := by decide +kernel
theorem d_LA_law_387 : decode b_LA_law 387 = .ok (.invokevirtual 66, 3) := by decide +kernel
theorem d_LA_law_390 : decode b_LA_law 390 = .ok (.aload_n 2, 1) := by decide +kernel
theorem d_LA_law_391 : decode b_LA_law 391 = .ok (.aload_n 0, 1) := by decide +kernel
theorem d_LA_law_392 : decode b_LA_law 392 = .ok (.iload 4, 2) := by decide +kernel
theorem d_LA_law_394 : decode b_LA_law 394 = .ok (.iconst 1, 1) := by decide +kernel
theorem d_LA_law_395 : decode b_LA_law 395 = .ok (.iadd, 1) := by decide +kernel
theorem d_LA_law_396 : decode b_LA_law 396 = .ok (.iaload, 1) := by decide +kernel
theorem d_LA_law_397 : decode b_LA_law 397 = .ok (.aload_n 0, 1) := by decide +kernel
theorem d_LA_law_398 : decode b_LA_law 398 = .ok (.iload 4, 2) := by decide +kernel
theorem d_LA_law_400 : decode b_LA_law 400 = .ok (.iconst 2, 1) := by decide +kernel
theorem d_LA_law_401 : decode b_LA_law 401 = .ok (.iadd, 1) := by decide +kernel
theorem d_LA_law_402 : decode b_LA_law 402 = .ok (.iaload, 1) := by decide +kernel
theorem d_LA_law_403 : decode b_LA_law 403 = .ok (.aload_n 0, 1) := by decide +kernel
theorem d_LA_law_404 : decode b_LA_law 404 = .ok (.iload 4, 2) := by decide +kernel
theorem d_LA_law_406 : decode b_LA_law 406 = .ok (.iconst 3, 1) := by decide +kernel
theorem d_LA_law_407 : decode b_LA_law 407 = .ok (.iadd, 1) := by decide +kernel
theorem d_LA_law_408 : decode b_LA_law 408 = .ok (.iaload, 1) := by decide +kernel
theorem d_LA_law_409 : decode b_LA_law 409 = .ok (.aload_n 0, 1) := by decide +kernel
theorem d_LA_law_410 : decode b_LA_law 410 = .ok (.iload 4, 2) := by decide +kernel
theorem d_LA_law_412 : decode b_LA_law 412 = .ok (.iconst 4, 1) := by decide +kernel
theorem d_LA_law_413 : decode b_LA_law 413 = .ok (.iadd, 1) := by decide +kernel
theorem d_LA_law_414 : decode b_LA_law 414 = .ok (.iaload, 1) := by decide +kernel
theorem d_LA_law_415 : decode b_LA_law 415 = .ok (.invokevirtual 70, 3) := by decide +kernel
theorem d_LA_law_418 : decode b_LA_law 418 = .ok (.if_icmp .eq 914, 3) := by decide +kernel
theorem d_LA_law_421 : decode b_LA_law 421 = .ok (.iconst 0, 1) := by decide +kernel
theorem d_LA_law_422 : decode b_LA_law 422 = .ok (.ireturn, 1) := by decide +kernel
theorem d_LA_law_423 : decode b_LA_law 423 = .ok (.aload_n 1, 1) := by decide +kernel
theorem d_LA_law_424 : decode b_LA_law 424 = .ok (.aload_n 0, 1) := by decide +kernel
theorem d_LA_law_425 : decode b_LA_law 425 = .ok (.iload 4, 2) := by decide +kernel
theorem d_LA_law_427 : decode b_LA_law 427 = .ok (.iconst 1, 1) := by decide +kernel
theorem d_LA_law_428 : decode b_LA_law 428 = .ok (.iadd, 1) := by decide +kernel
theorem d_LA_law_429 : decode b_LA_law 429 = .ok (.iaload, 1) := by decide +kernel
theorem d_LA_law_430 : decode b_LA_law 430 = .ok (.invokevirtual 71, 3) := by decide +kernel
theorem d_LA_law_433 : decode b_LA_law 433 = .ok (.aload_n 2, 1) := by decide +kernel
theorem d_LA_law_434 : decode b_LA_law 434 = .ok (.aload_n 0, 1) := by decide +kernel
theorem d_LA_law_435 : decode b_LA_law 435 = .ok (.iload 4, 2) := by decide +kernel
theorem d_LA_law_437 : decode b_LA_law 437 = .ok (.iconst 1, 1) := by decide +kernel
theorem d_LA_law_438 : decode b_LA_law 438 = .ok (.iadd, 1) := by decide +kernel
theorem d_LA_law_439 : decode b_LA_law 439 = .ok (.iaload, 1) := by decide +kernel
theorem d_LA_law_440 : decode b_LA_law 440 = .ok (.invokevirtual 75, 3) := by decide +kernel
theorem d_LA_law_443 : decode b_LA_law 443 = .ok (.if_icmp .eq 889, 3) := by decide +kernel
theorem d_LA_law_446 : decode b_LA_law 446 = .ok (.iconst 0, 1) := by decide +kernel
theorem d_LA_law_447 : decode b_LA_law 447 = .ok (.ireturn, 1) := by decide +kernel
theorem d_LA_law_448 : decode b_LA_law 448 = .ok (.aload_n 1, 1) := by decide +kernel
theorem d_LA_law_449 : decode b_LA_law 449 = .ok (.aload_n 0, 1) := by decide +kernel
theorem d_LA_law_450 : decode b_LA_law 450 = .ok (.iload 4, 2) := by decide +kernel
theorem d_LA_law_452 : decode b_LA_law 452 = .ok (.iconst 1, 1) := by decide +kernel
theorem d_LA_law_453 : decode b_LA_law 453 = .ok (.iadd, 1) := by decide +kernel
theorem d_LA_law_454 : decode b_LA_law 454 = .ok (.iaload, 1) := by decide +kernel
theorem d_LA_law_455 : decode b_LA_law 455 = .ok (.aload_n 0, 1) := by decide +kernel
theorem d_LA_law_456 : decode b_LA_law 456 = .ok (.iload 4, 2) := by decide +kernel
theorem d_LA_law_458 : decode b_LA_law 458 = .ok (.iconst 2, 1) := by decide +kernel
theorem d_LA_law_459 : decode b_LA_law 459 = .ok (.iadd, 1) := by decide +kernel
theorem d_LA_law_460 : decode b_LA_law 460 = .ok (.iaload, 1) := by decide +kernel
theorem d_LA_law_461 : decode b_LA_law 461 = .ok (.invokevirtual 76, 3) := by decide +kernel
theorem d_LA_law_464 : decode b_LA_law 464 = .ok (.aload_n 2, 1) := by decide +kernel
theorem d_LA_law_465 : decode b_LA_law 465 = .ok (.aload_n 0, 1) := by decide +kernel
theorem d_LA_law_466 : decode b_LA_law 466 = .ok (.iload 4, 2) := by decide +kernel
theorem d_LA_law_468 : decode b_LA_law 468 = .ok (.iconst 1, 1) := by decide +kernel
theorem d_LA_law_469 : decode b_LA_law 469 = .ok (.iadd, 1) := by decide +kernel
theorem d_LA_law_470 : decode b_LA_law 470 = .ok (.iaload, 1) := by decide +kernel
theorem d_LA_law_471 : decode b_LA_law 471 = .ok (.aload_n 0, 1) := by decide +kernel
theorem d_LA_law_472 : decode b_LA_law 472 = .ok (.iload 4, 2) := by decide +kernel
theorem d_LA_law_474 : decode b_LA_law 474 = .ok (.iconst 2, 1) := by decide +kernel
theorem d_LA_law_475 : decode b_LA_law 475 = .ok (.iadd, 1) := by decide +kernel
theorem d_LA_law_476 : decode b_LA_law 476 = .ok (.iaload, 1) := by decide +kernel
theorem d_LA_law_477 : decode b_LA_law 477 = .ok (.invokevirtual 79, 3) := by decide +kernel
theorem d_LA_law_480 : decode b_LA_law 480 = .ok (.if_icmp .eq 852, 3) := by decide +kernel
theorem d_LA_law_483 : decode b_LA_law 483 = .ok (.iconst 0, 1) := by decide +kernel
theorem d_LA_law_484 : decode b_LA_law 484 = .ok (.ireturn, 1) := by decide +kernel
theorem d_LA_law_485 : decode b_LA_law 485 = .ok (.aload_n 1, 1) := by decide +kernel
theorem d_LA_law_486 : decode b_LA_law 486 = .ok (.aload_n 0, 1) := by decide +kernel
theorem d_LA_law_487 : decode b_LA_law 487 = .ok (.iload 4, 2) := by decide +kernel
theorem d_LA_law_489 : decode b_LA_law 489 = .ok (.iconst 1, 1) := by decide +kernel
theorem d_LA_law_490 : decode b_LA_law 490 = .ok (.iadd, 1) := by decide +kernel
theorem d_LA_law_491 : decode b_LA_law 491 = .ok (.iaload, 1) := by decide +kernel
theorem d_LA_law_492 : decode b_LA_law 492 = .ok (.aload_n 0, 1) := by decide +kernel
theorem d_LA_law_493 : decode b_LA_law 493 = .ok (.iload 4, 2) := by decide +kernel
theorem d_LA_law_495 : decode b_LA_law 495 = .ok (.iconst 2, 1) := by decide +kernel
theorem d_LA_law_496 : decode b_LA_law 496 = .ok (.iadd, 1) := by decide +kernel
theorem d_LA_law_497 : decode b_LA_law 497 = .ok (.iaload, 1) := by decide +kernel
theorem d_LA_law_498 : decode b_LA_law 498 = .ok (.invokevirtual 80, 3) := by decide +kernel
theorem d_LA_law_501 : decode b_LA_law 501 = .ok (.aload_n 2, 1) := by decide +kernel
theorem d_LA_law_502 : decode b_LA_law 502 = .ok (.aload_n 0, 1) := by decide +kernel
theorem d_LA_law_503 : decode b_LA_law 503 = .ok (.iload 4, 2) := by decide +kernel
theorem d_LA_law_505 : decode b_LA_law 505 = .ok (.iconst 1, 1) := by decide +kernel
theorem d_LA_law_506 : decode b_LA_law 506 = .ok (.iadd, 1) := by decide +kernel
theorem d_LA_law_507 : decode b_LA_law 507 = .ok (.iaload, 1) := by decide +kernel
theorem d_LA_law_508 : decode b_LA_law 508 = .ok (.aload_n 0, 1) := by decide +kernel
theorem d_LA_law_509 : decode b_LA_law 509 = .ok (.iload 4, 2) := by decide +kernel
theorem d_LA_law_511 : decode b_LA_law 511 = .ok (.iconst 2, 1) := by decide +kernel
theorem d_LA_law_512 : decode b_LA_law 512 = .ok (.iadd, 1) := by decide +kernel
theorem d_LA_law_513 : decode b_LA_law 513 = .ok (.iaload, 1) := by decide +kernel
theorem d_LA_law_514 : decode b_LA_law 514 = .ok (.invokevirtual 83, 3) := by decide +kernel
theorem d_LA_law_517 : decode b_LA_law 517 = .ok (.if_icmp .eq 815, 3) := by decide +kernel
theorem d_LA_law_520 : decode b_LA_law 520 = .ok (.iconst 0, 1) := by decide +kernel
theorem d_LA_law_521 : decode b_LA_law 521 = .ok (.ireturn, 1) := by decide +kernel
theorem d_LA_law_522 : decode b_LA_law 522 = .ok (.aload_n 1, 1) := by decide +kernel
theorem d_LA_law_523 : decode b_LA_law 523 = .ok (.aload_n 0, 1) := by decide +kernel
theorem d_LA_law_524 : decode b_LA_law 524 = .ok (.iload 4, 2) := by decide +kernel
theorem d_LA_law_526 : decode b_LA_law 526 = .ok (.iconst 1, 1) := by decide +kernel
theorem d_LA_law_527 : decode b_LA_law 527 = .ok (.iadd, 1) := by decide +kernel
theorem d_LA_law_528 : decode b_LA_law 528 = .ok (.iaload, 1) := by decide +kernel
theorem d_LA_law_529 : decode b_LA_law 529 = .ok (.invokevirtual 84, 3) := by decide +kernel
theorem d_LA_law_532 : decode b_LA_law 532 = .ok (.aload_n 2, 1) := by decide +kernel
theorem d_LA_law_533 : decode b_LA_law 533 = .ok (.aload_n 0, 1) := by decide +kernel
theorem d_LA_law_534 : decode b_LA_law 534 = .ok (.iload 4, 2) := by decide +kernel
theorem d_LA_law_536 : decode b_LA_law 536 = .ok (.iconst 1, 1) := by decide +kernel
theorem d_LA_law_537 : decode b_LA_law 537 = .ok (.iadd, 1) := by decide +kernel
theorem d_LA_law_538 : decode b_LA_law 538 = .ok (.iaload, 1) := by decide +kernel
theorem d_LA_law_539 : decode b_LA_law 539 = .ok (.invokevirtual 87, 3) := by decide +kernel
theorem d_LA_law_542 : decode b_LA_law 542 = .ok (.if_icmp .eq 790, 3) := by decide +kernel
theorem d_LA_law_545 : decode b_LA_law 545 = .ok (.iconst 0, 1) := by decide +kernel
theorem d_LA_law_546 : decode b_LA_law 546 = .ok (.ireturn, 1) := by decide +kernel
theorem d_LA_law_547 : decode b_LA_law 547 = .ok (.aload_n 1, 1) := by decide +kernel
theorem d_LA_law_548 : decode b_LA_law 548 = .ok (.aload_n 0, 1) := by decide +kernel
theorem d_LA_law_549 : decode b_LA_law 549 = .ok (.iload 4, 2) := by decide +kernel
theorem d_LA_law_551 : decode b_LA_law 551 = .ok (.iconst 1, 1) := by decide +kernel
theorem d_LA_law_552 : decode b_LA_law 552 = .ok (.iadd, 1) := by decide +kernel
theorem d_LA_law_553 : decode b_LA_law 553 = .ok (.iaload, 1) := by decide +kernel
theorem d_LA_law_554 : decode b_LA_law 554 = .ok (.aload_n 0, 1) := by decide +kernel
theorem d_LA_law_555 : decode b_LA_law 555 = .ok (.iload 4, 2) := by decide +kernel
theorem d_LA_law_557 : decode b_LA_law 557 = .ok (.iconst 2, 1) := by decide +kernel
theorem d_LA_law_558 : decode b_LA_law 558 = .ok (.iadd, 1) := by decide +kernel
theorem d_LA_law_559 : decode b_LA_law 559 = .ok (.iaload, 1) := by decide +kernel
theorem d_LA_law_560 : decode b_LA_law 560 = .ok (.aload_n 0, 1) := by decide +kernel
theorem d_LA_law_561 : decode b_LA_law 561 = .ok (.iload 4, 2) := by decide +kernel
theorem d_LA_law_563 : decode b_LA_law 563 = .ok (.iconst 3, 1) := by decide +kernel
theorem d_LA_law_564 : decode b_LA_law 564 = .ok (.iadd, 1) := by decide +kernel
theorem d_LA_law_565 : decode b_LA_law 565 = .ok (.iaload, 1) := by decide +kernel
theorem d_LA_law_566 : decode b_LA_law 566 = .ok (.invokevirtual 88, 3) := by decide +kernel
theorem d_LA_law_569 : decode b_LA_law 569 = .ok (.aload_n 2, 1) := by decide +kernel
theorem d_LA_law_570 : decode b_LA_law 570 = .ok (.aload_n 0, 1) := by decide +kernel
theorem d_LA_law_571 : decode b_LA_law 571 = .ok (.iload 4, 2) := by decide +kernel
theorem d_LA_law_573 : decode b_LA_law 573 = .ok (.iconst 1, 1) := by decide +kernel
theorem d_LA_law_574 : decode b_LA_law 574 = .ok (.iadd, 1) := by decide +kernel
theorem d_LA_law_575 : decode b_LA_law 575 = .ok (.iaload, 1) := by decide +kernel
theorem d_LA_law_576 : decode b_LA_law 576 = .ok (.aload_n 0, 1) := by decide +kernel
theorem d_LA_law_577 : decode b_LA_law 577 = .ok (.iload 4, 2) := by decide +kernel
theorem d_LA_law_579 : decode b_LA_law 579 = .ok (.iconst 2, 1) := by decide +kernel
theorem d_LA_law_580 : decode b_LA_law 580 = .ok (.iadd, 1) := by decide +kernel
theorem d_LA_law_581 : decode b_LA_law 581 = .ok (.iaload, 1) := by decide +kernel
theorem d_LA_law_582 : decode b_LA_law 582 = .ok (.aload_n 0, 1) := by decide +kernel
theorem d_LA_law_583 : decode b_LA_law 583 = .ok (.iload 4, 2) := by decide +kernel
theorem d_LA_law_585 : decode b_LA_law 585 = .ok (.iconst 3, 1) := by decide +kernel
theorem d_LA_law_586 : decode b_LA_law 586 = .ok (.iadd, 1) := by decide +kernel
theorem d_LA_law_587 : decode b_LA_law 587 = .ok (.iaload, 1) := by decide +kernel
theorem d_LA_law_588 : decode b_LA_law 588 = .ok (.invokevirtual 92, 3) := by decide +kernel
theorem d_LA_law_591 : decode b_LA_law 591 = .ok (.if_icmp .eq 741, 3) := by decide +kernel
theorem d_LA_law_594 : decode b_LA_law 594 = .ok (.iconst 0, 1) := by decide +kernel
theorem d_LA_law_595 : decode b_LA_law 595 = .ok (.ireturn, 1) := by decide +kernel
theorem d_LA_law_596 : decode b_LA_law 596 = .ok (.aload_n 1, 1) := by decide +kernel
theorem d_LA_law_597 : decode b_LA_law 597 = .ok (.aload_n 0, 1) := by decide +kernel
theorem d_LA_law_598 : decode b_LA_law 598 = .ok (.iload 4, 2) := by decide +kernel
theorem d_LA_law_600 : decode b_LA_law 600 = .ok (.iconst 1, 1) := by decide +kernel
theorem d_LA_law_601 : decode b_LA_law 601 = .ok (.iadd, 1) := by decide +kernel
theorem d_LA_law_602 : decode b_LA_law 602 = .ok (.iaload, 1) := by decide +kernel
theorem d_LA_law_603 : decode b_LA_law 603 = .ok (.aload_n 3, 1) := by decide +kernel
theorem d_LA_law_604 : decode b_LA_law 604 = .ok (.invokestatic 93, 3) := by decide +kernel
theorem d_LA_law_607 : decode b_LA_law 607 = .ok (.istore 5, 2) := by decide +kernel
theorem d_LA_law_609 : decode b_LA_law 609 = .ok (.aload_n 2, 1) := by decide +kernel
theorem d_LA_law_610 : decode b_LA_law 610 = .ok (.aload_n 0, 1) := by decide +kernel
theorem d_LA_law_611 : decode b_LA_law 611 = .ok (.iload 4, 2) := by decide +kernel
theorem d_LA_law_613 : decode b_LA_law 613 = .ok (.iconst 1, 1) := by decide +kernel
theorem d_LA_law_614 : decode b_LA_law 614 = .ok (.iadd, 1) := by decide +kernel
theorem d_LA_law_615 : decode b_LA_law 615 = .ok (.iaload, 1) := by decide +kernel
theorem d_LA_law_616 : decode b_LA_law 616 = .ok (.invokevirtual 96, 3) := by decide +kernel
theorem d_LA_law_619 : decode b_LA_law 619 = .ok (.istore 6, 2) := by decide +kernel
theorem d_LA_law_621 : decode b_LA_law 621 = .ok (.aload_n 2, 1) := by decide +kernel
theorem d_LA_law_622 : decode b_LA_law 622 = .ok (.invokevirtual 57, 3) := by decide +kernel
theorem d_LA_law_625 : decode b_LA_law 625 = .ok (.iload 5, 2) := by decide +kernel
theorem d_LA_law_627 : decode b_LA_law 627 = .ok (.if_icmp .eq 5, 3) := by decide +kernel
theorem d_LA_law_630 : decode b_LA_law 630 = .ok (.iconst 0, 1) := by decide +kernel
theorem d_LA_law_631 : decode b_LA_law 631 = .ok (.ireturn, 1) := by decide +kernel
theorem d_LA_law_632 : decode b_LA_law 632 = .ok (.iload 5, 2) := by decide +kernel
theorem d_LA_law_634 : decode b_LA_law 634 = .ok (.ifCond .ne 15, 3) := by decide +kernel
theorem d_LA_law_637 : decode b_LA_law 637 = .ok (.aload_n 3, 1) := by decide +kernel
theorem d_LA_law_638 : decode b_LA_law 638 = .ok (.iconst 0, 1) := by decide +kernel
theorem d_LA_law_639 : decode b_LA_law 639 = .ok (.laload, 1) := by decide +kernel
theorem d_LA_law_640 : decode b_LA_law 640 = .ok (.iload 6, 2) := by decide +kernel
theorem d_LA_law_642 : decode b_LA_law 642 = .ok (.i2l, 1) := by decide +kernel
theorem d_LA_law_643 : decode b_LA_law 643 = .ok (.lcmp, 1) := by decide +kernel
theorem d_LA_law_644 : decode b_LA_law 644 = .ok (.ifCond .eq 5, 3) := by decide +kernel
theorem d_LA_law_647 : decode b_LA_law 647 = .ok (.iconst 0, 1) := by decide +kernel
theorem d_LA_law_648 : decode b_LA_law 648 = .ok (.ireturn, 1) := by decide +kernel
theorem d_LA_law_649 : decode b_LA_law 649 = .ok (.goto 683, 3) := by decide +kernel
theorem d_LA_law_652 : decode b_LA_law 652 = .ok (.aload_n 1, 1) := by decide +kernel
theorem d_LA_law_653 : decode b_LA_law 653 = .ok (.aload_n 0, 1) := by decide +kernel
theorem d_LA_law_654 : decode b_LA_law 654 = .ok (.iload 4, 2) := by decide +kernel
theorem d_LA_law_656 : decode b_LA_law 656 = .ok (.iconst 1, 1) := by decide +kernel
theorem d_LA_law_657 : decode b_LA_law 657 = .ok (.iadd, 1) := by decide +kernel
theorem d_LA_law_658 : decode b_LA_law 658 = .ok (.iaload, 1) := by decide +kernel
theorem d_LA_law_659 : decode b_LA_law 659 = .ok (.aload_n 0, 1) := by decide +kernel
theorem d_LA_law_660 : decode b_LA_law 660 = .ok (.iload 4, 2) := by decide +kernel
theorem d_LA_law_662 : decode b_LA_law 662 = .ok (.iconst 2, 1) := by decide +kernel
theorem d_LA_law_663 : decode b_LA_law 663 = .ok (.iadd, 1) := by decide +kernel
theorem d_LA_law_664 : decode b_LA_law 664 = .ok (.iaload, 1) := by decide +kernel
theorem d_LA_law_665 : decode b_LA_law 665 = .ok (.ifCond .eq 7, 3) := by decide +kernel
theorem d_LA_law_668 : decode b_LA_law 668 = .ok (.iconst 1, 1) := by decide +kernel
theorem d_LA_law_669 : decode b_LA_law 669 = .ok (.goto 4, 3) := by decide +kernel
theorem d_LA_law_672 : decode b_LA_law 672 = .ok (.iconst 0, 1) := by decide +kernel
theorem d_LA_law_673 : decode b_LA_law 673 = .ok (.invokevirtual 97, 3) := by decide +kernel
theorem d_LA_law_676 : decode b_LA_law 676 = .ok (.aload_n 2, 1) := by decide +kernel
theorem d_LA_law_677 : decode b_LA_law 677 = .ok (.aload_n 0, 1) := by decide +kernel
theorem d_LA_law_678 : decode b_LA_law 678 = .ok (.iload 4, 2) := by decide +kernel
theorem d_LA_law_680 : decode b_LA_law 680 = .ok (.iconst 1, 1) := by decide +kernel
theorem d_LA_law_681 : decode b_LA_law 681 = .ok (.iadd, 1) := by decide +kernel
theorem d_LA_law_682 : decode b_LA_law 682 = .ok (.iaload, 1) := by decide +kernel
theorem d_LA_law_683 : decode b_LA_law 683 = .ok (.aload_n 0, 1) := by decide +kernel
theorem d_LA_law_684 : decode b_LA_law 684 = .ok (.iload 4, 2) := by decide +kernel
theorem d_LA_law_686 : decode b_LA_law 686 = .ok (.iconst 2, 1) := by decide +kernel
theorem d_LA_law_687 : decode b_LA_law 687 = .ok (.iadd, 1) := by decide +kernel
theorem d_LA_law_688 : decode b_LA_law 688 = .ok (.iaload, 1) := by decide +kernel
theorem d_LA_law_689 : decode b_LA_law 689 = .ok (.ifCond .eq 7, 3) := by decide +kernel
theorem d_LA_law_692 : decode b_LA_law 692 = .ok (.iconst 1, 1) := by decide +kernel
theorem d_LA_law_693 : decode b_LA_law 693 = .ok (.goto 4, 3) := by decide +kernel
theorem d_LA_law_696 : decode b_LA_law 696 = .ok (.iconst 0, 1) := by decide +kernel
theorem d_LA_law_697 : decode b_LA_law 697 = .ok (.invokevirtual 101, 3) := by decide +kernel
theorem d_LA_law_700 : decode b_LA_law 700 = .ok (.if_icmp .eq 632, 3) := by decide +kernel
theorem d_LA_law_703 : decode b_LA_law 703 = .ok (.iconst 0, 1) := by decide +kernel
theorem d_LA_law_704 : decode b_LA_law 704 = .ok (.ireturn, 1) := by decide +kernel
theorem d_LA_law_705 : decode b_LA_law 705 = .ok (.aload_n 1, 1) := by decide +kernel
theorem d_LA_law_706 : decode b_LA_law 706 = .ok (.aload_n 0, 1) := by decide +kernel
theorem d_LA_law_707 : decode b_LA_law 707 = .ok (.iload 4, 2) := by decide +kernel
theorem d_LA_law_709 : decode b_LA_law 709 = .ok (.iconst 1, 1) := by decide +kernel
theorem d_LA_law_710 : decode b_LA_law 710 = .ok (.iadd, 1) := by decide +kernel
theorem d_LA_law_711 : decode b_LA_law 711 = .ok (.iaload, 1) := by decide +kernel
theorem d_LA_law_712 : decode b_LA_law 712 = .ok (.invokevirtual 102, 3) := by decide +kernel
theorem d_LA_law_715 : decode b_LA_law 715 = .ok (.aload_n 2, 1) := by decide +kernel
theorem d_LA_law_716 : decode b_LA_law 716 = .ok (.aload_n 0, 1) := by decide +kernel
theorem d_LA_law_717 : decode b_LA_law 717 = .ok (.iload 4, 2) := by decide +kernel
theorem d_LA_law_719 : decode b_LA_law 719 = .ok (.iconst 1, 1) := by decide +kernel
theorem d_LA_law_720 : decode b_LA_law 720 = .ok (.iadd, 1) := by decide +kernel
theorem d_LA_law_721 : decode b_LA_law 721 = .ok (.iaload, 1) := by decide +kernel
theorem d_LA_law_722 : decode b_LA_law 722 = .ok (.invokevirtual 105, 3) := by decide +kernel
theorem d_LA_law_725 : decode b_LA_law 725 = .ok (.if_icmp .eq 607, 3) := by decide +kernel
theorem d_LA_law_728 : decode b_LA_law 728 = .ok (.iconst 0, 1) := by decide +kernel
theorem d_LA_law_729 : decode b_LA_law 729 = .ok (.ireturn, 1) := by decide +kernel
theorem d_LA_law_730 : decode b_LA_law 730 = .ok (.aload_n 1, 1) := by decide +kernel
theorem d_LA_law_731 : decode b_LA_law 731 = .ok (.aload_n 0, 1) := by decide +kernel
theorem d_LA_law_732 : decode b_LA_law 732 = .ok (.iload 4, 2) := by decide +kernel
theorem d_LA_law_734 : decode b_LA_law 734 = .ok (.iconst 1, 1) := by decide +kernel
theorem d_LA_law_735 : decode b_LA_law 735 = .ok (.iadd, 1) := by decide +kernel
theorem d_LA_law_736 : decode b_LA_law 736 = .ok (.iaload, 1) := by decide +kernel
theorem d_LA_law_737 : decode b_LA_law 737 = .ok (.aload_n 0, 1) := by decide +kernel
theorem d_LA_law_738 : decode b_LA_law 738 = .ok (.iload 4, 2) := by decide +kernel
theorem d_LA_law_740 : decode b_LA_law 740 = .ok (.iconst 2, 1) := by decide +kernel
theorem d_LA_law_741 : decode b_LA_law 741 = .ok (.iadd, 1) := by decide +kernel
theorem d_LA_law_742 : decode b_LA_law 742 = .ok (.iaload, 1) := by decide +kernel
theorem d_LA_law_743 : decode b_LA_law 743 = .ok (.aload_n 3, 1) := by decide +kernel
theorem d_LA_law_744 : decode b_LA_law 744 = .ok (.invokestatic 106, 3) := by decide +kernel
theorem d_LA_law_747 : decode b_LA_law 747 = .ok (.istore 5, 2) := by decide +kernel
theorem d_LA_law_749 : decode b_LA_law 749 = .ok (.aload_n 2, 1) := by decide +kernel
theorem d_LA_law_750 : decode b_LA_law 750 = .ok (.aload_n 0, 1) := by decide +kernel
theorem d_LA_law_751 : decode b_LA_law 751 = .ok (.iload 4, 2) := by decide +kernel
theorem d_LA_law_753 : decode b_LA_law 753 = .ok (.iconst 1, 1) := by decide +kernel
theorem d_LA_law_754 : decode b_LA_law 754 = .ok (.iadd, 1) := by decide +kernel
theorem d_LA_law_755 : decode b_LA_law 755 = .ok (.iaload, 1) := by decide +kernel
theorem d_LA_law_756 : decode b_LA_law 756 = .ok (.aload_n 0, 1) := by decide +kernel
theorem d_LA_law_757 : decode b_LA_law 757 = .ok (.iload 4, 2) := by decide +kernel
theorem d_LA_law_759 : decode b_LA_law 759 = .ok (.iconst 2, 1) := by decide +kernel
theorem d_LA_law_760 : decode b_LA_law 760 = .ok (.iadd, 1) := by decide +kernel
theorem d_LA_law_761 : decode b_LA_law 761 = .ok (.iaload, 1) := by decide +kernel
theorem d_LA_law_762 : decode b_LA_law 762 = .ok (.invokevirtual 109, 3) := by decide +kernel
theorem d_LA_law_765 : decode b_LA_law 765 = .ok (.istore 6, 2) := by decide +kernel
theorem d_LA_law_767 : decode b_LA_law 767 = .ok (.aload_n 2, 1) := by decide +kernel
theorem d_LA_law_768 : decode b_LA_law 768 = .ok (.invokevirtual 57, 3) := by decide +kernel
theorem d_LA_law_771 : decode b_LA_law 771 = .ok (.iload 5, 2) := by decide +kernel
theorem d_LA_law_773 : decode b_LA_law 773 = .ok (.if_icmp .eq 5, 3) := by decide +kernel
theorem d_LA_law_776 : decode b_LA_law 776 = .ok (.iconst 0, 1) := by decide +kernel
theorem d_LA_law_777 : decode b_LA_law 777 = .ok (.ireturn, 1) := by decide +kernel
theorem d_LA_law_778 : decode b_LA_law 778 = .ok (.iload 5, 2) := by decide +kernel
theorem d_LA_law_780 : decode b_LA_law 780 = .ok (.ifCond .ne 15, 3) := by decide +kernel
theorem d_LA_law_783 : decode b_LA_law 783 = .ok (.aload_n 3, 1) := by decide +kernel
theorem d_LA_law_784 : decode b_LA_law 784 = .ok (.iconst 0, 1) := by decide +kernel
theorem d_LA_law_785 : decode b_LA_law 785 = .ok (.laload, 1) := by decide +kernel
theorem d_LA_law_786 : decode b_LA_law 786 = .ok (.iload 6, 2) := by decide +kernel
theorem d_LA_law_788 : decode b_LA_law 788 = .ok (.i2l, 1) := by decide +kernel
theorem d_LA_law_789 : decode b_LA_law 789 = .ok (.lcmp, 1) := by decide +kernel
theorem d_LA_law_790 : decode b_LA_law 790 = .ok (.ifCond .eq 5, 3) := by decide +kernel
theorem d_LA_law_793 : decode b_LA_law 793 = .ok (.iconst 0, 1) := by decide +kernel
theorem d_LA_law_794 : decode b_LA_law 794 = .ok (.ireturn, 1) := by decide +kernel
theorem d_LA_law_795 : decode b_LA_law 795 = .ok (.goto 537, 3) := by decide +kernel
theorem d_LA_law_798 : decode b_LA_law 798 = .ok (.aload_n 1, 1) := by decide +kernel
theorem d_LA_law_799 : decode b_LA_law 799 = .ok (.aload_n 0, 1) := by decide +kernel
theorem d_LA_law_800 : decode b_LA_law 800 = .ok (.iload 4, 2) := by decide +kernel
theorem d_LA_law_802 : decode b_LA_law 802 = .ok (.iconst 1, 1) := by decide +kernel
theorem d_LA_law_803 : decode b_LA_law 803 = .ok (.iadd, 1) := by decide +kernel
theorem d_LA_law_804 : decode b_LA_law 804 = .ok (.iaload, 1) := by decide +kernel
theorem d_LA_law_805 : decode b_LA_law 805 = .ok (.aload_n 0, 1) := by decide +kernel
theorem d_LA_law_806 : decode b_LA_law 806 = .ok (.iload 4, 2) := by decide +kernel
theorem d_LA_law_808 : decode b_LA_law 808 = .ok (.iconst 2, 1) := by decide +kernel
theorem d_LA_law_809 : decode b_LA_law 809 = .ok (.iadd, 1) := by decide +kernel
theorem d_LA_law_810 : decode b_LA_law 810 = .ok (.iaload, 1) := by decide +kernel
theorem d_LA_law_811 : decode b_LA_law 811 = .ok (.aload_n 3, 1) := by decide +kernel
theorem d_LA_law_812 : decode b_LA_law 812 = .ok (.invokestatic 110, 3) := by decide +kernel
theorem d_LA_law_815 : decode b_LA_law 815 = .ok (.istore 5, 2) := by decide +kernel
theorem d_LA_law_817 : decode b_LA_law 817 = .ok (.aload_n 2, 1) := by decide +kernel
theorem d_LA_law_818 : decode b_LA_law 818 = .ok (.aload_n 0, 1) := by decide +kernel
theorem d_LA_law_819 : decode b_LA_law 819 = .ok (.iload 4, 2) := by decide +kernel
theorem d_LA_law_821 : decode b_LA_law 821 = .ok (.iconst 1, 1) := by decide +kernel
theorem d_LA_law_822 : decode b_LA_law 822 = .ok (.iadd, 1) := by decide +kernel
theorem d_LA_law_823 : decode b_LA_law 823 = .ok (.iaload, 1) := by decide +kernel
theorem d_LA_law_824 : decode b_LA_law 824 = .ok (.aload_n 0, 1) := by decide +kernel
theorem d_LA_law_825 : decode b_LA_law 825 = .ok (.iload 4, 2) := by decide +kernel
theorem d_LA_law_827 : decode b_LA_law 827 = .ok (.iconst 2, 1) := by decide +kernel
theorem d_LA_law_828 : decode b_LA_law 828 = .ok (.iadd, 1) := by decide +kernel
theorem d_LA_law_829 : decode b_LA_law 829 = .ok (.iaload, 1) := by decide +kernel
theorem d_LA_law_830 : decode b_LA_law 830 = .ok (.invokevirtual 112, 3) := by decide +kernel
theorem d_LA_law_833 : decode b_LA_law 833 = .ok (.istore 6, 2) := by decide +kernel
theorem d_LA_law_835 : decode b_LA_law 835 = .ok (.aload_n 2, 1) := by decide +kernel
theorem d_LA_law_836 : decode b_LA_law 836 = .ok (.invokevirtual 57, 3) := by decide +kernel
theorem d_LA_law_839 : decode b_LA_law 839 = .ok (.iload 5, 2) := by decide +kernel
theorem d_LA_law_841 : decode b_LA_law 841 = .ok (.if_icmp .eq 5, 3) := by decide +kernel
theorem d_LA_law_844 : decode b_LA_law 844 = .ok (.iconst 0, 1) := by decide +kernel
theorem d_LA_law_845 : decode b_LA_law 845 = .ok (.ireturn, 1) := by decide +kernel
theorem d_LA_law_846 : decode b_LA_law 846 = .ok (.iload 5, 2) := by decide +kernel
theorem d_LA_law_848 : decode b_LA_law 848 = .ok (.ifCond .ne 15, 3) := by decide +kernel
theorem d_LA_law_851 : decode b_LA_law 851 = .ok (.aload_n 3, 1) := by decide +kernel
theorem d_LA_law_852 : decode b_LA_law 852 = .ok (.iconst 0, 1) := by decide +kernel
theorem d_LA_law_853 : decode b_LA_law 853 = .ok (.laload, 1) := by decide +kernel
theorem d_LA_law_854 : decode b_LA_law 854 = .ok (.iload 6, 2) := by decide +kernel
theorem d_LA_law_856 : decode b_LA_law 856 = .ok (.i2l, 1) := by decide +kernel
theorem d_LA_law_857 : decode b_LA_law 857 = .ok (.lcmp, 1) := by decide +kernel
theorem d_LA_law_858 : decode b_LA_law 858 = .ok (.ifCond .eq 5, 3) := by decide +kernel
theorem d_LA_law_861 : decode b_LA_law 861 = .ok (.iconst 0, 1) := by decide +kernel
theorem d_LA_law_862 : decode b_LA_law 862 = .ok (.ireturn, 1) := by decide +kernel
theorem d_LA_law_863 : decode b_LA_law 863 = .ok (.goto 469, 3) := by decide +kernel
theorem d_LA_law_866 : decode b_LA_law 866 = .ok (.aload_n 1, 1) := by decide +kernel
theorem d_LA_law_867 : decode b_LA_law 867 = .ok (.aload_n 0, 1) := by decide +kernel
theorem d_LA_law_868 : decode b_LA_law 868 = .ok (.iload 4, 2) := by decide +kernel
theorem d_LA_law_870 : decode b_LA_law 870 = .ok (.iconst 1, 1) := by decide +kernel
theorem d_LA_law_871 : decode b_LA_law 871 = .ok (.iadd, 1) := by decide +kernel
theorem d_LA_law_872 : decode b_LA_law 872 = .ok (.iaload, 1) := by decide +kernel
theorem d_LA_law_873 : decode b_LA_law 873 = .ok (.aload_n 0, 1) := by decide +kernel
theorem d_LA_law_874 : decode b_LA_law 874 = .ok (.iload 4, 2) := by decide +kernel
theorem d_LA_law_876 : decode b_LA_law 876 = .ok (.iconst 2, 1) := by decide +kernel
theorem d_LA_law_877 : decode b_LA_law 877 = .ok (.iadd, 1) := by decide +kernel
theorem d_LA_law_878 : decode b_LA_law 878 = .ok (.iaload, 1) := by decide +kernel
theorem d_LA_law_879 : decode b_LA_law 879 = .ok (.invokevirtual 113, 3) := by decide +kernel
theorem d_LA_law_882 : decode b_LA_law 882 = .ok (.aload_n 2, 1) := by decide +kernel
theorem d_LA_law_883 : decode b_LA_law 883 = .ok (.aload_n 0, 1) := by decide +kernel
theorem d_LA_law_884 : decode b_LA_law 884 = .ok (.iload 4, 2) := by decide +kernel
theorem d_LA_law_886 : decode b_LA_law 886 = .ok (.iconst 1, 1) := by decide +kernel
theorem d_LA_law_887 : decode b_LA_law 887 = .ok (.iadd, 1) := by decide +kernel
theorem d_LA_law_888 : decode b_LA_law 888 = .ok (.iaload, 1) := by decide +kernel
theorem d_LA_law_889 : decode b_LA_law 889 = .ok (.aload_n 0, 1) := by decide +kernel
theorem d_LA_law_890 : decode b_LA_law 890 = .ok (.iload 4, 2) := by decide +kernel
theorem d_LA_law_892 : decode b_LA_law 892 = .ok (.iconst 2, 1) := by decide +kernel
theorem d_LA_law_893 : decode b_LA_law 893 = .ok (.iadd, 1) := by decide +kernel
theorem d_LA_law_894 : decode b_LA_law 894 = .ok (.iaload, 1) := by decide +kernel
theorem d_LA_law_895 : decode b_LA_law 895 = .ok (.invokevirtual 116, 3) := by decide +kernel
theorem d_LA_law_898 : decode b_LA_law 898 = .ok (.if_icmp .eq 434, 3) := by decide +kernel
theorem d_LA_law_901 : decode b_LA_law 901 = .ok (.iconst 0, 1) := by decide +kernel
theorem d_LA_law_902 : decode b_LA_law 902 = .ok (.ireturn, 1) := by decide +kernel
theorem d_LA_law_903 : decode b_LA_law 903 = .ok (.aload_n 1, 1) := by decide +kernel
theorem d_LA_law_904 : decode b_LA_law 904 = .ok (.aload_n 0, 1) := by decide +kernel
theorem d_LA_law_905 : decode b_LA_law 905 = .ok (.iload 4, 2) := by decide +kernel
theorem d_LA_law_907 : decode b_LA_law 907 = .ok (.iconst 1, 1) := by decide +kernel
theorem d_LA_law_908 : decode b_LA_law 908 = .ok (.iadd, 1) := by decide +kernel
theorem d_LA_law_909 : decode b_LA_law 909 = .ok (.iaload, 1) := by decide +kernel
theorem d_LA_law_910 : decode b_LA_law 910 = .ok (.aload_n 0, 1) := by decide +kernel
theorem d_LA_law_911 : decode b_LA_law 911 = .ok (.iload 4, 2) := by decide +kernel
theorem d_LA_law_913 : decode b_LA_law 913 = .ok (.iconst 2, 1) := by decide +kernel
theorem d_LA_law_914 : decode b_LA_law 914 = .ok (.iadd, 1) := by decide +kernel
theorem d_LA_law_915 : decode b_LA_law 915 = .ok (.iaload, 1) := by decide +kernel
theorem d_LA_law_916 : decode b_LA_law 916 = .ok (.aload_n 0, 1) := by decide +kernel
theorem d_LA_law_917 : decode b_LA_law 917 = .ok (.iload 4, 2) := by decide +kernel
theorem d_LA_law_919 : decode b_LA_law 919 = .ok (.iconst 3, 1) := by decide +kernel
theorem d_LA_law_920 : decode b_LA_law 920 = .ok (.iadd, 1) := by decide +kernel
theorem d_LA_law_921 : decode b_LA_law 921 = .ok (.iaload, 1) := by decide +kernel
theorem d_LA_law_922 : decode b_LA_law 922 = .ok (.invokevirtual 117, 3) := by decide +kernel
theorem d_LA_law_925 : decode b_LA_law 925 = .ok (.aload_n 2, 1) := by decide +kernel
theorem d_LA_law_926 : decode b_LA_law 926 = .ok (.aload_n 0, 1) := by decide +kernel
theorem d_LA_law_927 : decode b_LA_law 927 = .ok (.iload 4, 2) := by decide +kernel
theorem d_LA_law_929 : decode b_LA_law 929 = .ok (.iconst 1, 1) := by decide +kernel
theorem d_LA_law_930 : decode b_LA_law 930 = .ok (.iadd, 1) := by decide +kernel
theorem d_LA_law_931 : decode b_LA_law 931 = .ok (.iaload, 1) := by decide +kernel
theorem d_LA_law_932 : decode b_LA_law 932 = .ok (.aload_n 0, 1) := by decide +kernel
theorem d_LA_law_933 : decode b_LA_law 933 = .ok (.iload 4, 2) := by decide +kernel
theorem d_LA_law_935 : decode b_LA_law 935 = .ok (.iconst 2, 1) := by decide +kernel
theorem d_LA_law_936 : decode b_LA_law 936 = .ok (.iadd, 1) := by decide +kernel
theorem d_LA_law_937 : decode b_LA_law 937 = .ok (.iaload, 1) := by decide +kernel
theorem d_LA_law_938 : decode b_LA_law 938 = .ok (.aload_n 0, 1) := by decide +kernel
theorem d_LA_law_939 : decode b_LA_law 939 = .ok (.iload 4, 2) := by decide +kernel
theorem d_LA_law_941 : decode b_LA_law 941 = .ok (.iconst 3, 1) := by decide +kernel
theorem d_LA_law_942 : decode b_LA_law 942 = .ok (.iadd, 1) := by decide +kernel
theorem d_LA_law_943 : decode b_LA_law 943 = .ok (.iaload, 1) := by decide +kernel
theorem d_LA_law_944 : decode b_LA_law 944 = .ok (.invokevirtual 120, 3) := by decide +kernel
theorem d_LA_law_947 : decode b_LA_law 947 = .ok (.if_icmp .eq 385, 3) := by decide +kernel
theorem d_LA_law_950 : decode b_LA_law 950 = .ok (.iconst 0, 1) := by decide +kernel
theorem d_LA_law_951 : decode b_LA_law 951 = .ok (.ireturn, 1) := by decide +kernel
theorem d_LA_law_952 : decode b_LA_law 952 = .ok (.aload_n 1, 1) := by decide +kernel
theorem d_LA_law_953 : decode b_LA_law 953 = .ok (.aload_n 0, 1) := by decide +kernel
theorem d_LA_law_954 : decode b_LA_law 954 = .ok (.iload 4, 2) := by decide +kernel
theorem d_LA_law_956 : decode b_LA_law 956 = .ok (.iconst 1, 1) := by decide +kernel
theorem d_LA_law_957 : decode b_LA_law 957 = .ok (.iadd, 1) := by decide +kernel
theorem d_LA_law_958 : decode b_LA_law 958 = .ok (.iaload, 1) := by decide +kernel
theorem d_LA_law_959 : decode b_LA_law 959 = .ok (.aload_n 0, 1) := by decide +kernel
theorem d_LA_law_960 : decode b_LA_law 960 = .ok (.iload 4, 2) := by decide +kernel
theorem d_LA_law_962 : decode b_LA_law 962 = .ok (.iconst 2, 1) := by decide +kernel
theorem d_LA_law_963 : decode b_LA_law 963 = .ok (.iadd, 1) := by decide +kernel
theorem d_LA_law_964 : decode b_LA_law 964 = .ok (.iaload, 1) := by decide +kernel
theorem d_LA_law_965 : decode b_LA_law 965 = .ok (.invokevirtual 121, 3) := by decide +kernel
theorem d_LA_law_968 : decode b_LA_law 968 = .ok (.aload_n 2, 1) := by decide +kernel
theorem d_LA_law_969 : decode b_LA_law 969 = .ok (.aload_n 0, 1) := by decide +kernel
theorem d_LA_law_970 : decode b_LA_law 970 = .ok (.iload 4, 2) := by decide +kernel
theorem d_LA_law_972 : decode b_LA_law 972 = .ok (.iconst 1, 1) := by decide +kernel
theorem d_LA_law_973 : decode b_LA_law 973 = .ok (.iadd, 1) := by decide +kernel
theorem d_LA_law_974 : decode b_LA_law 974 = .ok (.iaload, 1) := by decide +kernel
theorem d_LA_law_975 : decode b_LA_law 975 = .ok (.aload_n 0, 1) := by decide +kernel
theorem d_LA_law_976 : decode b_LA_law 976 = .ok (.iload 4, 2) := by decide +kernel
theorem d_LA_law_978 : decode b_LA_law 978 = .ok (.iconst 2, 1) := by decide +kernel
theorem d_LA_law_979 : decode b_LA_law 979 = .ok (.iadd, 1) := by decide +kernel
theorem d_LA_law_980 : decode b_LA_law 980 = .ok (.iaload, 1) := by decide +kernel
theorem d_LA_law_981 : decode b_LA_law 981 = .ok (.invokevirtual 124, 3) := by decide +kernel
theorem d_LA_law_984 : decode b_LA_law 984 = .ok (.if_icmp .eq 348, 3) := by decide +kernel
theorem d_LA_law_987 : decode b_LA_law 987 = .ok (.iconst 0, 1) := by decide +kernel
theorem d_LA_law_988 : decode b_LA_law 988 = .ok (.ireturn, 1) := by decide +kernel
theorem d_LA_law_989 : decode b_LA_law 989 = .ok (.aload_n 1, 1) := by decide +kernel
theorem d_LA_law_990 : decode b_LA_law 990 = .ok (.aload_n 0, 1) := by decide +kernel
theorem d_LA_law_991 : decode b_LA_law 991 = .ok (.iload 4, 2) := by decide +kernel
theorem d_LA_law_993 : decode b_LA_law 993 = .ok (.iconst 1, 1) := by decide +kernel
theorem d_LA_law_994 : decode b_LA_law 994 = .ok (.iadd, 1) := by decide +kernel
theorem d_LA_law_995 : decode b_LA_law 995 = .ok (.iaload, 1) := by decide +kernel
theorem d_LA_law_996 : decode b_LA_law 996 = .ok (.aload_n 0, 1) := by decide +kernel
theorem d_LA_law_997 : decode b_LA_law 997 = .ok (.iload 4, 2) := by decide +kernel
theorem d_LA_law_999 : decode b_LA_law 999 = .ok (.iconst 2, 1) := by decide +kernel
theorem d_LA_law_1000 : decode b_LA_law 1000 = .ok (.iadd, 1) := by decide +kernel
theorem d_LA_law_1001 : decode b_LA_law 1001 = .ok (.iaload, 1) := by decide +kernel
theorem d_LA_law_1002 : decode b_LA_law 1002 = .ok (.aload_n 0, 1) := by decide +kernel
theorem d_LA_law_1003 : decode b_LA_law 1003 = .ok (.iload 4, 2) := by decide +kernel
theorem d_LA_law_1005 : decode b_LA_law 1005 = .ok (.iconst 3, 1) := by decide +kernel
theorem d_LA_law_1006 : decode b_LA_law 1006 = .ok (.iadd, 1) := by decide +kernel
theorem d_LA_law_1007 : decode b_LA_law 1007 = .ok (.iaload, 1) := by decide +kernel
theorem d_LA_law_1008 : decode b_LA_law 1008 = .ok (.aload_n 0, 1) := by decide +kernel
theorem d_LA_law_1009 : decode b_LA_law 1009 = .ok (.iload 4, 2) := by decide +kernel
theorem d_LA_law_1011 : decode b_LA_law 1011 = .ok (.iconst 4, 1) := by decide +kernel
theorem d_LA_law_1012 : decode b_LA_law 1012 = .ok (.iadd, 1) := by decide +kernel
theorem d_LA_law_1013 : decode b_LA_law 1013 = .ok (.iaload, 1) := by decide +kernel
theorem d_LA_law_1014 : decode b_LA_law 1014 = .ok (.aload_n 3, 1) := by decide +kernel
theorem d_LA_law_1015 : decode b_LA_law 1015 = .ok (.invokestatic 125, 3) := by decide +kernel
theorem d_LA_law_1018 : decode b_LA_law 1018 = .ok (.istore 5, 2) := by decide +kernel
theorem d_LA_law_1020 : decode b_LA_law 1020 = .ok (.aload_n 2, 1) := by decide +kernel
theorem d_LA_law_1021 : decode b_LA_law 1021 = .ok (.aload_n 0, 1) := by decide +kernel
theorem d_LA_law_1022 : decode b_LA_law 1022 = .ok (.iload 4, 2) := by decide +kernel
theorem d_LA_law_1024 : decode b_LA_law 1024 = .ok (.iconst 1, 1) := by decide +kernel
theorem d_LA_law_1025 : decode b_LA_law 1025 = .ok (.iadd, 1) := by decide +kernel
theorem d_LA_law_1026 : decode b_LA_law 1026 = .ok (.iaload, 1) := by decide +kernel
theorem d_LA_law_1027 : decode b_LA_law 1027 = .ok (.aload_n 0, 1) := by decide +kernel
theorem d_LA_law_1028 : decode b_LA_law 1028 = .ok (.iload 4, 2) := by decide +kernel
theorem d_LA_law_1030 : decode b_LA_law 1030 = .ok (.iconst 2, 1) := by decide +kernel
theorem d_LA_law_1031 : decode b_LA_law 1031 = .ok (.iadd, 1) := by decide +kernel
theorem d_LA_law_1032 : decode b_LA_law 1032 = .ok (.iaload, 1) := by decide +kernel
theorem d_LA_law_1033 : decode b_LA_law 1033 = .ok (.aload_n 0, 1) := by decide +kernel
theorem d_LA_law_1034 : decode b_LA_law 1034 = .ok (.iload 4, 2) := by decide +kernel
theorem d_LA_law_1036 : decode b_LA_law 1036 = .ok (.iconst 3, 1) := by decide +kernel
theorem d_LA_law_1037 : decode b_LA_law 1037 = .ok (.iadd, 1) := by decide +kernel
theorem d_LA_law_1038 : decode b_LA_law 1038 = .ok (.iaload, 1) := by decide +kernel
theorem d_LA_law_1039 : decode b_LA_law 1039 = .ok (.aload_n 0, 1) := by decide +kernel
theorem d_LA_law_1040 : decode b_LA_law 1040 = .ok (.iload 4, 2) := by decide +kernel
theorem d_LA_law_1042 : decode b_LA_law 1042 = .ok (.iconst 4, 1) := by decide +kernel
theorem d_LA_law_1043 : decode b_LA_law 1043 = .ok (.iadd, 1) := by decide +kernel
theorem d_LA_law_1044 : decode b_LA_law 1044 = .ok (.iaload, 1) := by decide +kernel
theorem d_LA_law_1045 : decode b_LA_law 1045 = .ok (.invokevirtual 128, 3) := by decide +kernel
theorem d_LA_law_1048 : decode b_LA_law 1048 = .ok (.istore 6, 2) := by decide +kernel
theorem d_LA_law_1050 : decode b_LA_law 1050 = .ok (.aload_n 2, 1) := by decide +kernel
theorem d_LA_law_1051 : decode b_LA_law 1051 = .ok (.invokevirtual 57, 3) := by decide +kernel
theorem d_LA_law_1054 : decode b_LA_law 1054 = .ok (.iload 5, 2) := by decide +kernel
theorem d_LA_law_1056 : decode b_LA_law 1056 = .ok (.if_icmp .eq 5, 3) := by decide +kernel
theorem d_LA_law_1059 : decode b_LA_law 1059 = .ok (.iconst 0, 1) := by decide +kernel
theorem d_LA_law_1060 : decode b_LA_law 1060 = .ok (.ireturn, 1) := by decide +kernel
theorem d_LA_law_1061 : decode b_LA_law 1061 = .ok (.iload 5, 2) := by decide +kernel
theorem d_LA_law_1063 : decode b_LA_law 1063 = .ok (.ifCond .ne 15, 3) := by decide +kernel
theorem d_LA_law_1066 : decode b_LA_law 1066 = .ok (.aload_n 3, 1) := by decide +kernel
theorem d_LA_law_1067 : decode b_LA_law 1067 = .ok (.iconst 0, 1) := by decide +kernel
theorem d_LA_law_1068 : decode b_LA_law 1068 = .ok (.laload, 1) := by decide +kernel
theorem d_LA_law_1069 : decode b_LA_law 1069 = .ok (.iload 6, 2) := by decide +kernel
theorem d_LA_law_1071 : decode b_LA_law 1071 = .ok (.i2l, 1) := by decide +kernel
theorem d_LA_law_1072 : decode b_LA_law 1072 = .ok (.lcmp, 1) := by decide +kernel
theorem d_LA_law_1073 : decode b_LA_law 1073 = .ok (.ifCond .eq 5, 3) := by decide +kernel
theorem d_LA_law_1076 : decode b_LA_law 1076 = .ok (.iconst 0, 1) := by decide +kernel
theorem d_LA_law_1077 : decode b_LA_law 1077 = .ok (.ireturn, 1) := by decide +kernel
theorem d_LA_law_1078 : decode b_LA_law 1078 = .ok (.goto 254, 3) := by decide +kernel
theorem d_LA_law_1081 : decode b_LA_law 1081 = .ok (.aload_n 1, 1) := by decide +kernel
theorem d_LA_law_1082 : decode b_LA_law 1082 = .ok (.aload_n 0, 1) := by decide +kernel
theorem d_LA_law_1083 : decode b_LA_law 1083 = .ok (.iload 4, 2) := by decide +kernel
theorem d_LA_law_1085 : decode b_LA_law 1085 = .ok (.iconst 1, 1) := by decide +kernel
theorem d_LA_law_1086 : decode b_LA_law 1086 = .ok (.iadd, 1) := by decide +kernel
theorem d_LA_law_1087 : decode b_LA_law 1087 = .ok (.iaload, 1) := by decide +kernel
theorem d_LA_law_1088 : decode b_LA_law 1088 = .ok (.aload_n 0, 1) := by decide +kernel
theorem d_LA_law_1089 : decode b_LA_law 1089 = .ok (.iload 4, 2) := by decide +kernel
theorem d_LA_law_1091 : decode b_LA_law 1091 = .ok (.iconst 2, 1) := by decide +kernel
theorem d_LA_law_1092 : decode b_LA_law 1092 = .ok (.iadd, 1) := by decide +kernel
theorem d_LA_law_1093 : decode b_LA_law 1093 = .ok (.iaload, 1) := by decide +kernel
theorem d_LA_law_1094 : decode b_LA_law 1094 = .ok (.aload_n 0, 1) := by decide +kernel
theorem d_LA_law_1095 : decode b_LA_law 1095 = .ok (.iload 4, 2) := by decide +kernel
theorem d_LA_law_1097 : decode b_LA_law 1097 = .ok (.iconst 3, 1) := by decide +kernel
theorem d_LA_law_1098 : decode b_LA_law 1098 = .ok (.iadd, 1) := by decide +kernel
theorem d_LA_law_1099 : decode b_LA_law 1099 = .ok (.iaload, 1) := by decide +kernel
theorem d_LA_law_1100 : decode b_LA_law 1100 = .ok (.ifCond .eq 7, 3) := by decide +kernel
theorem d_LA_law_1103 : decode b_LA_law 1103 = .ok (.iconst 1, 1) := by decide +kernel
theorem d_LA_law_1104 : decode b_LA_law 1104 = .ok (.goto 4, 3) := by decide +kernel
theorem d_LA_law_1107 : decode b_LA_law 1107 = .ok (.iconst 0, 1) := by decide +kernel
theorem d_LA_law_1108 : decode b_LA_law 1108 = .ok (.invokevirtual 129, 3) := by decide +kernel
theorem d_LA_law_1111 : decode b_LA_law 1111 = .ok (.aload_n 2, 1) := by decide +kernel
theorem d_LA_law_1112 : decode b_LA_law 1112 = .ok (.aload_n 0, 1) := by decide +kernel
theorem d_LA_law_1113 : decode b_LA_law 1113 = .ok (.iload 4, 2) := by decide +kernel
theorem d_LA_law_1115 : decode b_LA_law 1115 = .ok (.iconst 1, 1) := by decide +kernel
theorem d_LA_law_1116 : decode b_LA_law 1116 = .ok (.iadd, 1) := by decide +kernel
theorem d_LA_law_1117 : decode b_LA_law 1117 = .ok (.iaload, 1) := by decide +kernel
theorem d_LA_law_1118 : decode b_LA_law 1118 = .ok (.aload_n 0, 1) := by decide +kernel
theorem d_LA_law_1119 : decode b_LA_law 1119 = .ok (.iload 4, 2) := by decide +kernel
theorem d_LA_law_1121 : decode b_LA_law 1121 = .ok (.iconst 2, 1) := by decide +kernel
theorem d_LA_law_1122 : decode b_LA_law 1122 = .ok (.iadd, 1) := by decide +kernel
theorem d_LA_law_1123 : decode b_LA_law 1123 = .ok (.iaload, 1) := by decide +kernel
theorem d_LA_law_1124 : decode b_LA_law 1124 = .ok (.aload_n 0, 1) := by decide +kernel
theorem d_LA_law_1125 : decode b_LA_law 1125 = .ok (.iload 4, 2) := by decide +kernel
theorem d_LA_law_1127 : decode b_LA_law 1127 = .ok (.iconst 3, 1) := by decide +kernel
theorem d_LA_law_1128 : decode b_LA_law 1128 = .ok (.iadd, 1) := by decide +kernel
theorem d_LA_law_1129 : decode b_LA_law 1129 = .ok (.iaload, 1) := by decide +kernel
theorem d_LA_law_1130 : decode b_LA_law 1130 = .ok (.ifCond .eq 7, 3) := by decide +kernel
theorem d_LA_law_1133 : decode b_LA_law 1133 = .ok (.iconst 1, 1) := by decide +kernel
theorem d_LA_law_1134 : decode b_LA_law 1134 = .ok (.goto 4, 3) := by decide +kernel
theorem d_LA_law_1137 : decode b_LA_law 1137 = .ok (.iconst 0, 1) := by decide +kernel
theorem d_LA_law_1138 : decode b_LA_law 1138 = .ok (.invokevirtual 133, 3) := by decide +kernel
theorem d_LA_law_1141 : decode b_LA_law 1141 = .ok (.if_icmp .eq 191, 3) := by decide +kernel
theorem d_LA_law_1144 : decode b_LA_law 1144 = .ok (.iconst 0, 1) := by decide +kernel
theorem d_LA_law_1145 : decode b_LA_law 1145 = .ok (.ireturn, 1) := by decide +kernel
theorem d_LA_law_1146 : decode b_LA_law 1146 = .ok (.aload_n 1, 1) := by decide +kernel
theorem d_LA_law_1147 : decode b_LA_law 1147 = .ok (.aload_n 0, 1) := by decide +kernel
theorem d_LA_law_1148 : decode b_LA_law 1148 = .ok (.iload 4, 2) := by decide +kernel
theorem d_LA_law_1150 : decode b_LA_law 1150 = .ok (.iconst 1, 1) := by decide +kernel
theorem d_LA_law_1151 : decode b_LA_law 1151 = .ok (.iadd, 1) := by decide +kernel
theorem d_LA_law_1152 : decode b_LA_law 1152 = .ok (.iaload, 1) := by decide +kernel
theorem d_LA_law_1153 : decode b_LA_law 1153 = .ok (.invokevirtual 134, 3) := by decide +kernel
theorem d_LA_law_1156 : decode b_LA_law 1156 = .ok (.aload_n 2, 1) := by decide +kernel
theorem d_LA_law_1157 : decode b_LA_law 1157 = .ok (.aload_n 0, 1) := by decide +kernel
theorem d_LA_law_1158 : decode b_LA_law 1158 = .ok (.iload 4, 2) := by decide +kernel
theorem d_LA_law_1160 : decode b_LA_law 1160 = .ok (.iconst 1, 1) := by decide +kernel
theorem d_LA_law_1161 : decode b_LA_law 1161 = .ok (.iadd, 1) := by decide +kernel
theorem d_LA_law_1162 : decode b_LA_law 1162 = .ok (.iaload, 1) := by decide +kernel
theorem d_LA_law_1163 : decode b_LA_law 1163 = .ok (.invokevirtual 137, 3) := by decide +kernel
theorem d_LA_law_1166 : decode b_LA_law 1166 = .ok (.if_icmp .eq 166, 3) := by decide +kernel
theorem d_LA_law_1169 : decode b_LA_law 1169 = .ok (.iconst 0, 1) := by decide +kernel
theorem d_LA_law_1170 : decode b_LA_law 1170 = .ok (.ireturn, 1) := by decide +kernel
theorem d_LA_law_1171 : decode b_LA_law 1171 = .ok (.aload_n 1, 1) := by decide +kernel
theorem d_LA_law_1172 : decode b_LA_law 1172 = .ok (.aload_n 0, 1) := by decide +kernel
theorem d_LA_law_1173 : decode b_LA_law 1173 = .ok (.iload 4, 2) := by decide +kernel
theorem d_LA_law_1175 : decode b_LA_law 1175 = .ok (.iconst 1, 1) := by decide +kernel
theorem d_LA_law_1176 : decode b_LA_law 1176 = .ok (.iadd, 1) := by decide +kernel
theorem d_LA_law_1177 : decode b_LA_law 1177 = .ok (.iaload, 1) := by decide +kernel
theorem d_LA_law_1178 : decode b_LA_law 1178 = .ok (.aload_n 0, 1) := by decide +kernel
theorem d_LA_law_1179 : decode b_LA_law 1179 = .ok (.iload 4, 2) := by decide +kernel
theorem d_LA_law_1181 : decode b_LA_law 1181 = .ok (.iconst 2, 1) := by decide +kernel
theorem d_LA_law_1182 : decode b_LA_law 1182 = .ok (.iadd, 1) := by decide +kernel
theorem d_LA_law_1183 : decode b_LA_law 1183 = .ok (.iaload, 1) := by decide +kernel
theorem d_LA_law_1184 : decode b_LA_law 1184 = .ok (.aload_n 3, 1) := by decide +kernel
theorem d_LA_law_1185 : decode b_LA_law 1185 = .ok (.invokestatic 138, 3) := by decide +kernel
theorem d_LA_law_1188 : decode b_LA_law 1188 = .ok (.istore 5, 2) := by decide +kernel
theorem d_LA_law_1190 : decode b_LA_law 1190 = .ok (.aload_n 2, 1) := by decide +kernel
theorem d_LA_law_1191 : decode b_LA_law 1191 = .ok (.aload_n 0, 1) := by decide +kernel
theorem d_LA_law_1192 : decode b_LA_law 1192 = .ok (.iload 4, 2) := by decide +kernel
theorem d_LA_law_1194 : decode b_LA_law 1194 = .ok (.iconst 1, 1) := by decide +kernel
theorem d_LA_law_1195 : decode b_LA_law 1195 = .ok (.iadd, 1) := by decide +kernel
theorem d_LA_law_1196 : decode b_LA_law 1196 = .ok (.iaload, 1) := by decide +kernel
theorem d_LA_law_1197 : decode b_LA_law 1197 = .ok (.aload_n 0, 1) := by decide +kernel
theorem d_LA_law_1198 : decode b_LA_law 1198 = .ok (.iload 4, 2) := by decide +kernel
theorem d_LA_law_1200 : decode b_LA_law 1200 = .ok (.iconst 2, 1) := by decide +kernel
theorem d_LA_law_1201 : decode b_LA_law 1201 = .ok (.iadd, 1) := by decide +kernel
theorem d_LA_law_1202 : decode b_LA_law 1202 = .ok (.iaload, 1) := by decide +kernel
theorem d_LA_law_1203 : decode b_LA_law 1203 = .ok (.invokevirtual 140, 3) := by decide +kernel
theorem d_LA_law_1206 : decode b_LA_law 1206 = .ok (.istore 6, 2) := by decide +kernel
theorem d_LA_law_1208 : decode b_LA_law 1208 = .ok (.aload_n 2, 1) := by decide +kernel
theorem d_LA_law_1209 : decode b_LA_law 1209 = .ok (.invokevirtual 57, 3) := by decide +kernel
theorem d_LA_law_1212 : decode b_LA_law 1212 = .ok (.iload 5, 2) := by decide +kernel
theorem d_LA_law_1214 : decode b_LA_law 1214 = .ok (.if_icmp .eq 5, 3) := by decide +kernel
theorem d_LA_law_1217 : decode b_LA_law 1217 = .ok (.iconst 0, 1) := by decide +kernel
theorem d_LA_law_1218 : decode b_LA_law 1218 = .ok (.ireturn, 1) := by decide +kernel
theorem d_LA_law_1219 : decode b_LA_law 1219 = .ok (.iload 5, 2) := by decide +kernel
theorem d_LA_law_1221 : decode b_LA_law 1221 = .ok (.ifCond .ne 15, 3) := by decide +kernel
theorem d_LA_law_1224 : decode b_LA_law 1224 = .ok (.aload_n 3, 1) := by decide +kernel
theorem d_LA_law_1225 : decode b_LA_law 1225 = .ok (.iconst 0, 1) := by decide +kernel
theorem d_LA_law_1226 : decode b_LA_law 1226 = .ok (.laload, 1) := by decide +kernel
theorem d_LA_law_1227 : decode b_LA_law 1227 = .ok (.iload 6, 2) := by decide +kernel
theorem d_LA_law_1229 : decode b_LA_law 1229 = .ok (.i2l, 1) := by decide +kernel
theorem d_LA_law_1230 : decode b_LA_law 1230 = .ok (.lcmp, 1) := by decide +kernel
theorem d_LA_law_1231 : decode b_LA_law 1231 = .ok (.ifCond .eq 5, 3) := by decide +kernel
theorem d_LA_law_1234 : decode b_LA_law 1234 = .ok (.iconst 0, 1) := by decide +kernel
theorem d_LA_law_1235 : decode b_LA_law 1235 = .ok (.ireturn, 1) := by decide +kernel
theorem d_LA_law_1236 : decode b_LA_law 1236 = .ok (.goto 96, 3) := by decide +kernel
theorem d_LA_law_1239 : decode b_LA_law 1239 = .ok (.aload_n 1, 1) := by decide +kernel
theorem d_LA_law_1240 : decode b_LA_law 1240 = .ok (.aload_n 0, 1) := by decide +kernel
theorem d_LA_law_1241 : decode b_LA_law 1241 = .ok (.iload 4, 2) := by decide +kernel
theorem d_LA_law_1243 : decode b_LA_law 1243 = .ok (.iconst 1, 1) := by decide +kernel
theorem d_LA_law_1244 : decode b_LA_law 1244 = .ok (.iadd, 1) := by decide +kernel
theorem d_LA_law_1245 : decode b_LA_law 1245 = .ok (.iaload, 1) := by decide +kernel
theorem d_LA_law_1246 : decode b_LA_law 1246 = .ok (.aload_n 0, 1) := by decide +kernel
theorem d_LA_law_1247 : decode b_LA_law 1247 = .ok (.iload 4, 2) := by decide +kernel
theorem d_LA_law_1249 : decode b_LA_law 1249 = .ok (.iconst 2, 1) := by decide +kernel
theorem d_LA_law_1250 : decode b_LA_law 1250 = .ok (.iadd, 1) := by decide +kernel
theorem d_LA_law_1251 : decode b_LA_law 1251 = .ok (.iaload, 1) := by decide +kernel
theorem d_LA_law_1252 : decode b_LA_law 1252 = .ok (.aload_n 3, 1) := by decide +kernel
theorem d_LA_law_1253 : decode b_LA_law 1253 = .ok (.invokestatic 141, 3) := by decide +kernel
theorem d_LA_law_1256 : decode b_LA_law 1256 = .ok (.istore 5, 2) := by decide +kernel
theorem d_LA_law_1258 : decode b_LA_law 1258 = .ok (.aload_n 2, 1) := by decide +kernel
theorem d_LA_law_1259 : decode b_LA_law 1259 = .ok (.aload_n 0, 1) := by decide +kernel
theorem d_LA_law_1260 : decode b_LA_law 1260 = .ok (.iload 4, 2) := by decide +kernel
theorem d_LA_law_1262 : decode b_LA_law 1262 = .ok (.iconst 1, 1) := by decide +kernel
theorem d_LA_law_1263 : decode b_LA_law 1263 = .ok (.iadd, 1) := by decide +kernel
theorem d_LA_law_1264 : decode b_LA_law 1264 = .ok (.iaload, 1) := by decide +kernel
theorem d_LA_law_1265 : decode b_LA_law 1265 = .ok (.aload_n 0, 1) := by decide +kernel
theorem d_LA_law_1266 : decode b_LA_law 1266 = .ok (.iload 4, 2) := by decide +kernel
theorem d_LA_law_1268 : decode b_LA_law 1268 = .ok (.iconst 2, 1) := by decide +kernel
theorem d_LA_law_1269 : decode b_LA_law 1269 = .ok (.iadd, 1) := by decide +kernel
theorem d_LA_law_1270 : decode b_LA_law 1270 = .ok (.iaload, 1) := by decide +kernel
theorem d_LA_law_1271 : decode b_LA_law 1271 = .ok (.invokevirtual 143, 3) := by decide +kernel
theorem d_LA_law_1274 : decode b_LA_law 1274 = .ok (.istore 6, 2) := by decide +kernel
theorem d_LA_law_1276 : decode b_LA_law 1276 = .ok (.aload_n 2, 1) := by decide +kernel
theorem d_LA_law_1277 : decode b_LA_law 1277 = .ok (.invokevirtual 57, 3) := by decide +kernel
theorem d_LA_law_1280 : decode b_LA_law 1280 = .ok (.iload 5, 2) := by decide +kernel
theorem d_LA_law_1282 : decode b_LA_law 1282 = .ok (.if_icmp .eq 5, 3) := by decide +kernel
theorem d_LA_law_1285 : decode b_LA_law 1285 = .ok (.iconst 0, 1) := by decide +kernel
theorem d_LA_law_1286 : decode b_LA_law 1286 = .ok (.ireturn, 1) := by decide +kernel
theorem d_LA_law_1287 : decode b_LA_law 1287 = .ok (.iload 5, 2) := by decide +kernel
theorem d_LA_law_1289 : decode b_LA_law 1289 = .ok (.ifCond .ne 15, 3) := by decide +kernel
theorem d_LA_law_1292 : decode b_LA_law 1292 = .ok (.aload_n 3, 1) := by decide +kernel
theorem d_LA_law_1293 : decode b_LA_law 1293 = .ok (.iconst 0, 1) := by decide +kernel
theorem d_LA_law_1294 : decode b_LA_law 1294 = .ok (.laload, 1) := by decide +kernel
theorem d_LA_law_1295 : decode b_LA_law 1295 = .ok (.iload 6, 2) := by decide +kernel
theorem d_LA_law_1297 : decode b_LA_law 1297 = .ok (.i2l, 1) := by decide +kernel
theorem d_LA_law_1298 : decode b_LA_law 1298 = .ok (.lcmp, 1) := by decide +kernel
theorem d_LA_law_1299 : decode b_LA_law 1299 = .ok (.ifCond .eq 5, 3) := by decide +kernel
theorem d_LA_law_1302 : decode b_LA_law 1302 = .ok (.iconst 0, 1) := by decide +kernel
theorem d_LA_law_1303 : decode b_LA_law 1303 = .ok (.ireturn, 1) := by decide +kernel
theorem d_LA_law_1304 : decode b_LA_law 1304 = .ok (.goto 28, 3) := by decide +kernel
theorem d_LA_law_1307 : decode b_LA_law 1307 = .ok (.aload_n 1, 1) := by decide +kernel
theorem d_LA_law_1308 : decode b_LA_law 1308 = .ok (.aload_n 0, 1) := by decide +kernel
theorem d_LA_law_1309 : decode b_LA_law 1309 = .ok (.iload 4, 2) := by decide +kernel
theorem d_LA_law_1311 : decode b_LA_law 1311 = .ok (.iconst 1, 1) := by decide +kernel
theorem d_LA_law_1312 : decode b_LA_law 1312 = .ok (.iadd, 1) := by decide +kernel
theorem d_LA_law_1313 : decode b_LA_law 1313 = .ok (.iaload, 1) := by decide +kernel
theorem d_LA_law_1314 : decode b_LA_law 1314 = .ok (.invokevirtual 144, 3) := by decide +kernel
theorem d_LA_law_1317 : decode b_LA_law 1317 = .ok (.aload_n 2, 1) := by decide +kernel
theorem d_LA_law_1318 : decode b_LA_law 1318 = .ok (.aload_n 0, 1) := by decide +kernel
theorem d_LA_law_1319 : decode b_LA_law 1319 = .ok (.iload 4, 2) := by decide +kernel
theorem d_LA_law_1321 : decode b_LA_law 1321 = .ok (.iconst 1, 1) := by decide +kernel
theorem d_LA_law_1322 : decode b_LA_law 1322 = .ok (.iadd, 1) := by decide +kernel
theorem d_LA_law_1323 : decode b_LA_law 1323 = .ok (.iaload, 1) := by decide +kernel
theorem d_LA_law_1324 : decode b_LA_law 1324 = .ok (.invokevirtual 147, 3) := by decide +kernel
theorem d_LA_law_1327 : decode b_LA_law 1327 = .ok (.if_icmp .eq 5, 3) := by decide +kernel
theorem d_LA_law_1330 : decode b_LA_law 1330 = .ok (.iconst 0, 1) := by decide +kernel
theorem d_LA_law_1331 : decode b_LA_law 1331 = .ok (.ireturn, 1) := by decide +kernel
theorem d_LA_law_1332 : decode b_LA_law 1332 = .ok (.iinc 4 6, 3) := by decide +kernel
theorem d_LA_law_1335 : decode b_LA_law 1335 = .ok (.goto (-1312), 3) := by decide +kernel
theorem d_LA_law_1338 : decode b_LA_law 1338 = .ok (.iconst 1, 1) := by decide +kernel
theorem d_LA_law_1339 : decode b_LA_law 1339 = .ok (.ireturn, 1) := by decide +kernel
end
section
def wsG : List Cond := lw_tbl.filter goodWord
theorem wg_0 : Cond.initialized "BedsideNetLaw" ∈ wsG := List.mem_filter.mpr ⟨List.mem_append_right _ (List.mem_of_getElem? (i := 0) (by decide +kernel)), by decide +kernel⟩
theorem wg_1 : Cond.initialized "BedsideNet" ∈ wsG := List.mem_filter.mpr ⟨List.mem_append_right _ (List.mem_of_getElem? (i := 1) (by decide +kernel)), by decide +kernel⟩
theorem wg_2 : Cond.initialized "BedsideNet$Post" ∈ wsG := List.mem_filter.mpr ⟨List.mem_append_right _ (List.mem_of_getElem? (i := 2) (by decide +kernel)), by decide +kernel⟩
theorem wg_3 : Cond.initialized "BedsideNet$Message" ∈ wsG := List.mem_filter.mpr ⟨List.mem_append_right _ (List.mem_of_getElem? (i := 3) (by decide +kernel)), by decide +kernel⟩
theorem wg_4 : Cond.initialized "BedsideNet$Device" ∈ wsG := List.mem_filter.mpr ⟨List.mem_append_right _ (List.mem_of_getElem? (i := 4) (by decide +kernel)), by decide +kernel⟩
theorem wg_5 : Cond.initialized "BedsideNet$Setting" ∈ wsG := List.mem_filter.mpr ⟨List.mem_append_right _ (List.mem_of_getElem? (i := 5) (by decide +kernel)), by decide +kernel⟩
theorem wg_6 : Cond.initialized "BedsideNet$Range" ∈ wsG := List.mem_filter.mpr ⟨List.mem_append_right _ (List.mem_of_getElem? (i := 6) (by decide +kernel)), by decide +kernel⟩
theorem wg_7 : Cond.initialized "BedsideNet$Channel" ∈ wsG := List.mem_filter.mpr ⟨List.mem_append_right _ (List.mem_of_getElem? (i := 7) (by decide +kernel)), by decide +kernel⟩
theorem wg_8 : Cond.initialized "BedsideNet$Alarm" ∈ wsG := List.mem_filter.mpr ⟨List.mem_append_right _ (List.mem_of_getElem? (i := 8) (by decide +kernel)), by decide +kernel⟩
theorem wg_9 : Cond.initialized "BedsideNet$Known" ∈ wsG := List.mem_filter.mpr ⟨List.mem_append_right _ (List.mem_of_getElem? (i := 9) (by decide +kernel)), by decide +kernel⟩
theorem wg_10 : Cond.initialized "BedsideNet$Display" ∈ wsG := List.mem_filter.mpr ⟨List.mem_append_right _ (List.mem_of_getElem? (i := 10) (by decide +kernel)), by decide +kernel⟩
theorem wg_11 : Cond.initialized "BedsideNet$Order" ∈ wsG := List.mem_filter.mpr ⟨List.mem_append_right _ (List.mem_of_getElem? (i := 11) (by decide +kernel)), by decide +kernel⟩
theorem wg_12 : Cond.initialized "BedsideNetModel" ∈ wsG := List.mem_filter.mpr ⟨List.mem_append_right _ (List.mem_of_getElem? (i := 12) (by decide +kernel)), by decide +kernel⟩
theorem wg_13 : Cond.initialized "java/lang/Throwable" ∈ wsG := List.mem_filter.mpr ⟨List.mem_append_right _ (List.mem_of_getElem? (i := 13) (by decide +kernel)), by decide +kernel⟩
theorem wg_14 : Cond.initialized "java/lang/Exception" ∈ wsG := List.mem_filter.mpr ⟨List.mem_append_right _ (List.mem_of_getElem? (i := 14) (by decide +kernel)), by decide +kernel⟩
theorem wg_15 : Cond.initialized "java/lang/RuntimeException" ∈ wsG := List.mem_filter.mpr ⟨List.mem_append_right _ (List.mem_of_getElem? (i := 15) (by decide +kernel)), by decide +kernel⟩
theorem wg_16 : Cond.initialized "java/lang/IllegalArgumentException" ∈ wsG := List.mem_filter.mpr ⟨List.mem_append_right _ (List.mem_of_getElem? (i := 16) (by decide +kernel)), by decide +kernel⟩
theorem wg_17 : Cond.initialized "java/lang/IllegalStateException" ∈ wsG := List.mem_filter.mpr ⟨List.mem_append_right _ (List.mem_of_getElem? (i := 17) (by decide +kernel)), by decide +kernel⟩
theorem wg_18 : Cond.initialized "java/lang/Math" ∈ wsG := List.mem_filter.mpr ⟨List.mem_append_right _ (List.mem_of_getElem? (i := 18) (by decide +kernel)), by decide +kernel⟩
theorem wg_19 : Cond.initialized "java/lang/IndexOutOfBoundsException" ∈ wsG := List.mem_filter.mpr ⟨List.mem_append_right _ (List.mem_of_getElem? (i := 19) (by decide +kernel)), by decide +kernel⟩
theorem wg_20 : Cond.initialized "java/util/NoSuchElementException" ∈ wsG := List.mem_filter.mpr ⟨List.mem_append_right _ (List.mem_of_getElem? (i := 20) (by decide +kernel)), by decide +kernel⟩
theorem wg_21 : Cond.classLink "BedsideNetLaw" 8 "BedsideNet" ∈ wsG := List.mem_filter.mpr ⟨List.mem_append_right _ (List.mem_of_getElem? (i := 21) (by decide +kernel)), by decide +kernel⟩
theorem wg_22 : Cond.instantiable "BedsideNet" 9 ∈ wsG := List.mem_filter.mpr ⟨List.mem_append_right _ (List.mem_of_getElem? (i := 22) (by decide +kernel)), by decide +kernel⟩
theorem wg_23 : Cond.methodLink "BedsideNetLaw" 42 ⟨"BedsideNet", "<init>", "()V"⟩ ∈ wsG := List.mem_filter.mpr ⟨List.mem_append_right _ (List.mem_of_getElem? (i := 23) (by decide +kernel)), by decide +kernel⟩
theorem wg_24 : Cond.instanceMethod ⟨"BedsideNet", "<init>", "()V"⟩ ∈ wsG := List.mem_filter.mpr ⟨List.mem_append_right _ (List.mem_of_getElem? (i := 24) (by decide +kernel)), by decide +kernel⟩
theorem wg_25 : Cond.code ⟨"BedsideNet", "<init>", "()V"⟩ prog_1_method_1_code 2 (Option.none : Option FieldType) ∈ wsG := List.mem_filter.mpr ⟨List.mem_append_right _ (List.mem_append_left _ (List.mem_of_getElem? (i := 25) (by rfl))), by rfl⟩
theorem wg_26 : Cond.methodLink "BedsideNet" 1 ⟨"java/lang/Object", "<init>", "()V"⟩ ∈ wsG := List.mem_filter.mpr ⟨List.mem_append_right _ (List.mem_of_getElem? (i := 26) (by decide +kernel)), by decide +kernel⟩
theorem wg_27 : Cond.instanceMethod ⟨"java/lang/Object", "<init>", "()V"⟩ ∈ wsG := List.mem_filter.mpr ⟨List.mem_append_right _ (List.mem_of_getElem? (i := 27) (by decide +kernel)), by decide +kernel⟩
theorem wg_28 : Cond.code ⟨"java/lang/Object", "<init>", "()V"⟩ object_method_1_code 1 (Option.none : Option FieldType) ∈ wsG := List.mem_filter.mpr ⟨List.mem_append_right _ (List.mem_append_left _ (List.mem_of_getElem? (i := 28) (by rfl))), by rfl⟩
theorem wg_29 : Cond.classLink "BedsideNet" 9 "BedsideNet$Device" ∈ wsG := List.mem_filter.mpr ⟨List.mem_append_right _ (List.mem_of_getElem? (i := 29) (by decide +kernel)), by decide +kernel⟩
theorem wn_30 : Cond.arrayOver (FieldType.object "BedsideNet$Device") ∈ tables_1 := List.mem_of_getElem? (i := 30) (by decide +kernel)
theorem wg_31 : Cond.classLink "BedsideNet" 19 "BedsideNet$Display" ∈ wsG := List.mem_filter.mpr ⟨List.mem_append_right _ (List.mem_of_getElem? (i := 31) (by decide +kernel)), by decide +kernel⟩
theorem wn_32 : Cond.arrayOver (FieldType.object "BedsideNet$Display") ∈ tables_1 := List.mem_of_getElem? (i := 32) (by decide +kernel)
theorem wg_33 : Cond.classLink "BedsideNet" 25 "BedsideNet$Order" ∈ wsG := List.mem_filter.mpr ⟨List.mem_append_right _ (List.mem_of_getElem? (i := 33) (by decide +kernel)), by decide +kernel⟩
theorem wn_34 : Cond.arrayOver (FieldType.object "BedsideNet$Order") ∈ tables_1 := List.mem_of_getElem? (i := 34) (by decide +kernel)
theorem wg_35 : Cond.classLink "BedsideNet" 31 "BedsideNet$Post" ∈ wsG := List.mem_filter.mpr ⟨List.mem_append_right _ (List.mem_of_getElem? (i := 35) (by decide +kernel)), by decide +kernel⟩
theorem wg_36 : Cond.instantiable "BedsideNet$Post" 4 ∈ wsG := List.mem_filter.mpr ⟨List.mem_append_right _ (List.mem_of_getElem? (i := 36) (by decide +kernel)), by decide +kernel⟩
theorem wn_37 : Cond.methodLinkNest "BedsideNet" 33 ⟨"BedsideNet$Post", "<init>", "()V"⟩ "BedsideNet" ∈ tables_1 := List.mem_of_getElem? (i := 37) (by decide +kernel)
theorem wg_38 : Cond.instanceMethod ⟨"BedsideNet$Post", "<init>", "()V"⟩ ∈ wsG := List.mem_filter.mpr ⟨List.mem_append_right _ (List.mem_of_getElem? (i := 38) (by decide +kernel)), by decide +kernel⟩
theorem wg_39 : Cond.code ⟨"BedsideNet$Post", "<init>", "()V"⟩ prog_9_method_1_code 2 (Option.none : Option FieldType) ∈ wsG := List.mem_filter.mpr ⟨List.mem_append_right _ (List.mem_append_left _ (List.mem_of_getElem? (i := 39) (by rfl))), by rfl⟩
theorem wg_40 : Cond.methodLink "BedsideNet$Post" 3 ⟨"java/lang/Object", "<init>", "()V"⟩ ∈ wsG := List.mem_filter.mpr ⟨List.mem_append_right _ (List.mem_of_getElem? (i := 40) (by decide +kernel)), by decide +kernel⟩
theorem wg_41 : Cond.classLink "BedsideNet$Post" 9 "BedsideNet$Message" ∈ wsG := List.mem_filter.mpr ⟨List.mem_append_right _ (List.mem_of_getElem? (i := 41) (by decide +kernel)), by decide +kernel⟩
theorem wn_42 : Cond.arrayOver (FieldType.object "BedsideNet$Message") ∈ tables_1 := List.mem_of_getElem? (i := 42) (by decide +kernel)
theorem wg_43 : Cond.instantiable "BedsideNet$Message" 8 ∈ wsG := List.mem_filter.mpr ⟨List.mem_append_right _ (List.mem_of_getElem? (i := 43) (by decide +kernel)), by decide +kernel⟩
theorem wn_44 : Cond.methodLinkNest "BedsideNet$Post" 17 ⟨"BedsideNet$Message", "<init>", "()V"⟩ "BedsideNet" ∈ tables_1 := List.mem_of_getElem? (i := 44) (by decide +kernel)
theorem wg_45 : Cond.instanceMethod ⟨"BedsideNet$Message", "<init>", "()V"⟩ ∈ wsG := List.mem_filter.mpr ⟨List.mem_append_right _ (List.mem_of_getElem? (i := 45) (by decide +kernel)), by decide +kernel⟩
theorem wg_46 : Cond.code ⟨"BedsideNet$Message", "<init>", "()V"⟩ prog_7_method_1_code 1 (Option.none : Option FieldType) ∈ wsG := List.mem_filter.mpr ⟨List.mem_append_right _ (List.mem_append_left _ (List.mem_of_getElem? (i := 46) (by rfl))), by rfl⟩
theorem wg_47 : Cond.methodLink "BedsideNet$Message" 1 ⟨"java/lang/Object", "<init>", "()V"⟩ ∈ wsG := List.mem_filter.mpr ⟨List.mem_append_right _ (List.mem_of_getElem? (i := 47) (by decide +kernel)), by decide +kernel⟩
theorem wg_48 : Cond.fieldLink "BedsideNet$Message" 7 "BedsideNet$Message" "number" "I" ∈ wsG := List.mem_filter.mpr ⟨List.mem_append_right _ (List.mem_of_getElem? (i := 48) (by decide +kernel)), by decide +kernel⟩
theorem wn_49 : Cond.fieldLinkNest "BedsideNet$Post" 25 "BedsideNet$Message" "number" "I" "BedsideNet" ∈ tables_1 := List.mem_of_getElem? (i := 49) (by decide +kernel)
theorem wn_50 : Cond.fieldLinkNest "BedsideNet$Display" 39 "BedsideNet$Message" "number" "I" "BedsideNet" ∈ tables_1 := List.mem_of_getElem? (i := 50) (by decide +kernel)
theorem wn_51 : Cond.fieldLinkNest "BedsideNet" 267 "BedsideNet$Message" "number" "I" "BedsideNet" ∈ tables_1 := List.mem_of_getElem? (i := 51) (by decide +kernel)
theorem wg_52 : Cond.fieldLink "BedsideNet$Message" 13 "BedsideNet$Message" "kind" "I" ∈ wsG := List.mem_filter.mpr ⟨List.mem_append_right _ (List.mem_of_getElem? (i := 52) (by decide +kernel)), by decide +kernel⟩
theorem wn_53 : Cond.fieldLinkNest "BedsideNet$Post" 28 "BedsideNet$Message" "kind" "I" "BedsideNet" ∈ tables_1 := List.mem_of_getElem? (i := 53) (by decide +kernel)
theorem wn_54 : Cond.fieldLinkNest "BedsideNet" 229 "BedsideNet$Message" "kind" "I" "BedsideNet" ∈ tables_1 := List.mem_of_getElem? (i := 54) (by decide +kernel)
theorem wg_55 : Cond.fieldLink "BedsideNet$Message" 16 "BedsideNet$Message" "device" "I" ∈ wsG := List.mem_filter.mpr ⟨List.mem_append_right _ (List.mem_of_getElem? (i := 55) (by decide +kernel)), by decide +kernel⟩
theorem wn_56 : Cond.fieldLinkNest "BedsideNet$Post" 31 "BedsideNet$Message" "device" "I" "BedsideNet" ∈ tables_1 := List.mem_of_getElem? (i := 56) (by decide +kernel)
theorem wn_57 : Cond.fieldLinkNest "BedsideNet$Display" 31 "BedsideNet$Message" "device" "I" "BedsideNet" ∈ tables_1 := List.mem_of_getElem? (i := 57) (by decide +kernel)
theorem wn_58 : Cond.fieldLinkNest "BedsideNet" 226 "BedsideNet$Message" "device" "I" "BedsideNet" ∈ tables_1 := List.mem_of_getElem? (i := 58) (by decide +kernel)
theorem wg_59 : Cond.fieldLink "BedsideNet$Message" 19 "BedsideNet$Message" "part" "I" ∈ wsG := List.mem_filter.mpr ⟨List.mem_append_right _ (List.mem_of_getElem? (i := 59) (by decide +kernel)), by decide +kernel⟩
theorem wn_60 : Cond.fieldLinkNest "BedsideNet$Post" 34 "BedsideNet$Message" "part" "I" "BedsideNet" ∈ tables_1 := List.mem_of_getElem? (i := 60) (by decide +kernel)
theorem wn_61 : Cond.fieldLinkNest "BedsideNet$Display" 34 "BedsideNet$Message" "part" "I" "BedsideNet" ∈ tables_1 := List.mem_of_getElem? (i := 61) (by decide +kernel)
theorem wn_62 : Cond.fieldLinkNest "BedsideNet" 236 "BedsideNet$Message" "part" "I" "BedsideNet" ∈ tables_1 := List.mem_of_getElem? (i := 62) (by decide +kernel)
theorem wg_63 : Cond.fieldLink "BedsideNet$Message" 22 "BedsideNet$Message" "life" "I" ∈ wsG := List.mem_filter.mpr ⟨List.mem_append_right _ (List.mem_of_getElem? (i := 63) (by decide +kernel)), by decide +kernel⟩
theorem wn_64 : Cond.fieldLinkNest "BedsideNet$Post" 37 "BedsideNet$Message" "life" "I" "BedsideNet" ∈ tables_1 := List.mem_of_getElem? (i := 64) (by decide +kernel)
theorem wn_65 : Cond.fieldLinkNest "BedsideNet$Display" 37 "BedsideNet$Message" "life" "I" "BedsideNet" ∈ tables_1 := List.mem_of_getElem? (i := 65) (by decide +kernel)
theorem wn_66 : Cond.fieldLinkNest "BedsideNet" 243 "BedsideNet$Message" "life" "I" "BedsideNet" ∈ tables_1 := List.mem_of_getElem? (i := 66) (by decide +kernel)
theorem wg_67 : Cond.fieldLink "BedsideNet$Message" 25 "BedsideNet$Message" "value" "I" ∈ wsG := List.mem_filter.mpr ⟨List.mem_append_right _ (List.mem_of_getElem? (i := 67) (by decide +kernel)), by decide +kernel⟩
theorem wn_68 : Cond.fieldLinkNest "BedsideNet$Post" 40 "BedsideNet$Message" "value" "I" "BedsideNet" ∈ tables_1 := List.mem_of_getElem? (i := 68) (by decide +kernel)
theorem wn_69 : Cond.fieldLinkNest "BedsideNet$Display" 40 "BedsideNet$Message" "value" "I" "BedsideNet" ∈ tables_1 := List.mem_of_getElem? (i := 69) (by decide +kernel)
theorem wn_70 : Cond.fieldLinkNest "BedsideNet" 239 "BedsideNet$Message" "value" "I" "BedsideNet" ∈ tables_1 := List.mem_of_getElem? (i := 70) (by decide +kernel)
theorem wg_71 : Cond.fieldLink "BedsideNet$Message" 28 "BedsideNet$Message" "measuredAt" "I" ∈ wsG := List.mem_filter.mpr ⟨List.mem_append_right _ (List.mem_of_getElem? (i := 71) (by decide +kernel)), by decide +kernel⟩
theorem wn_72 : Cond.fieldLinkNest "BedsideNet$Post" 43 "BedsideNet$Message" "measuredAt" "I" "BedsideNet" ∈ tables_1 := List.mem_of_getElem? (i := 72) (by decide +kernel)
theorem wn_73 : Cond.fieldLinkNest "BedsideNet$Display" 44 "BedsideNet$Message" "measuredAt" "I" "BedsideNet" ∈ tables_1 := List.mem_of_getElem? (i := 73) (by decide +kernel)
theorem wg_74 : Cond.fieldLink "BedsideNet$Message" 31 "BedsideNet$Message" "patient" "I" ∈ wsG := List.mem_filter.mpr ⟨List.mem_append_right _ (List.mem_of_getElem? (i := 74) (by decide +kernel)), by decide +kernel⟩
theorem wn_75 : Cond.fieldLinkNest "BedsideNet$Post" 46 "BedsideNet$Message" "patient" "I" "BedsideNet" ∈ tables_1 := List.mem_of_getElem? (i := 75) (by decide +kernel)
theorem wn_76 : Cond.fieldLinkNest "BedsideNet$Display" 38 "BedsideNet$Message" "patient" "I" "BedsideNet" ∈ tables_1 := List.mem_of_getElem? (i := 76) (by decide +kernel)
theorem wg_77 : Cond.lays "BedsideNet$Message" "BedsideNet$Message" "number" "I" ∈ wsG := List.mem_filter.mpr ⟨List.mem_append_right _ (List.mem_of_getElem? (i := 77) (by decide +kernel)), by decide +kernel⟩
theorem wg_79 : Cond.lays "BedsideNet$Message" "BedsideNet$Message" "kind" "I" ∈ wsG := List.mem_filter.mpr ⟨List.mem_append_right _ (List.mem_of_getElem? (i := 79) (by decide +kernel)), by decide +kernel⟩
theorem wg_81 : Cond.lays "BedsideNet$Message" "BedsideNet$Message" "device" "I" ∈ wsG := List.mem_filter.mpr ⟨List.mem_append_right _ (List.mem_of_getElem? (i := 81) (by decide +kernel)), by decide +kernel⟩
theorem wg_83 : Cond.lays "BedsideNet$Message" "BedsideNet$Message" "part" "I" ∈ wsG := List.mem_filter.mpr ⟨List.mem_append_right _ (List.mem_of_getElem? (i := 83) (by decide +kernel)), by decide +kernel⟩
theorem wg_85 : Cond.lays "BedsideNet$Message" "BedsideNet$Message" "life" "I" ∈ wsG := List.mem_filter.mpr ⟨List.mem_append_right _ (List.mem_of_getElem? (i := 85) (by decide +kernel)), by decide +kernel⟩
theorem wg_87 : Cond.lays "BedsideNet$Message" "BedsideNet$Message" "value" "I" ∈ wsG := List.mem_filter.mpr ⟨List.mem_append_right _ (List.mem_of_getElem? (i := 87) (by decide +kernel)), by decide +kernel⟩
theorem wg_89 : Cond.lays "BedsideNet$Message" "BedsideNet$Message" "measuredAt" "I" ∈ wsG := List.mem_filter.mpr ⟨List.mem_append_right _ (List.mem_of_getElem? (i := 89) (by decide +kernel)), by decide +kernel⟩
theorem wg_91 : Cond.lays "BedsideNet$Message" "BedsideNet$Message" "patient" "I" ∈ wsG := List.mem_filter.mpr ⟨List.mem_append_right _ (List.mem_of_getElem? (i := 91) (by decide +kernel)), by decide +kernel⟩
theorem wg_94 : Cond.arrayClass FieldType.int ∈ wsG := List.mem_filter.mpr ⟨List.mem_append_right _ (List.mem_of_getElem? (i := 94) (by decide +kernel)), by decide +kernel⟩
theorem wg_95 : Cond.fieldLink "BedsideNet$Post" 11 "BedsideNet$Post" "slots" "[LBedsideNet$Message;" ∈ wsG := List.mem_filter.mpr ⟨List.mem_append_right _ (List.mem_of_getElem? (i := 95) (by decide +kernel)), by decide +kernel⟩
theorem wn_96 : Cond.fieldLinkNest "BedsideNet" 191 "BedsideNet$Post" "slots" "[LBedsideNet$Message;" "BedsideNet" ∈ tables_1 := List.mem_of_getElem? (i := 96) (by decide +kernel)
theorem wg_97 : Cond.fieldLink "BedsideNet$Post" 18 "BedsideNet$Post" "pending" "I" ∈ wsG := List.mem_filter.mpr ⟨List.mem_append_right _ (List.mem_of_getElem? (i := 97) (by decide +kernel)), by decide +kernel⟩
theorem wn_98 : Cond.fieldLinkNest "BedsideNet" 373 "BedsideNet$Post" "pending" "I" "BedsideNet" ∈ tables_1 := List.mem_of_getElem? (i := 98) (by decide +kernel)
theorem wg_99 : Cond.fieldLink "BedsideNet$Post" 22 "BedsideNet$Post" "sent" "I" ∈ wsG := List.mem_filter.mpr ⟨List.mem_append_right _ (List.mem_of_getElem? (i := 99) (by decide +kernel)), by decide +kernel⟩
theorem wn_100 : Cond.fieldLinkNest "BedsideNet" 152 "BedsideNet$Post" "sent" "I" "BedsideNet" ∈ tables_1 := List.mem_of_getElem? (i := 100) (by decide +kernel)
theorem wg_101 : Cond.fieldLink "BedsideNet$Post" 49 "BedsideNet$Post" "lost" "I" ∈ wsG := List.mem_filter.mpr ⟨List.mem_append_right _ (List.mem_of_getElem? (i := 101) (by decide +kernel)), by decide +kernel⟩
theorem wn_102 : Cond.fieldLinkNest "BedsideNet" 376 "BedsideNet$Post" "lost" "I" "BedsideNet" ∈ tables_1 := List.mem_of_getElem? (i := 102) (by decide +kernel)
theorem wg_103 : Cond.laysFinal "BedsideNet$Post" "BedsideNet$Post" "slots" "[LBedsideNet$Message;" ∈ wsG := List.mem_filter.mpr ⟨List.mem_append_right _ (List.mem_of_getElem? (i := 103) (by decide +kernel)), by decide +kernel⟩
theorem wg_105 : Cond.lays "BedsideNet$Post" "BedsideNet$Post" "pending" "I" ∈ wsG := List.mem_filter.mpr ⟨List.mem_append_right _ (List.mem_of_getElem? (i := 105) (by decide +kernel)), by decide +kernel⟩
theorem wg_107 : Cond.lays "BedsideNet$Post" "BedsideNet$Post" "sent" "I" ∈ wsG := List.mem_filter.mpr ⟨List.mem_append_right _ (List.mem_of_getElem? (i := 107) (by decide +kernel)), by decide +kernel⟩
theorem wg_109 : Cond.lays "BedsideNet$Post" "BedsideNet$Post" "lost" "I" ∈ wsG := List.mem_filter.mpr ⟨List.mem_append_right _ (List.mem_of_getElem? (i := 109) (by decide +kernel)), by decide +kernel⟩
theorem wg_112 : Cond.classLink "BedsideNet" 38 "BedsideNet$Message" ∈ wsG := List.mem_filter.mpr ⟨List.mem_append_right _ (List.mem_of_getElem? (i := 112) (by decide +kernel)), by decide +kernel⟩
theorem wn_113 : Cond.methodLinkNest "BedsideNet" 40 ⟨"BedsideNet$Message", "<init>", "()V"⟩ "BedsideNet" ∈ tables_1 := List.mem_of_getElem? (i := 113) (by decide +kernel)
theorem wg_114 : Cond.instantiable "BedsideNet$Device" 9 ∈ wsG := List.mem_filter.mpr ⟨List.mem_append_right _ (List.mem_of_getElem? (i := 114) (by decide +kernel)), by decide +kernel⟩
theorem wn_115 : Cond.methodLinkNest "BedsideNet" 45 ⟨"BedsideNet$Device", "<init>", "()V"⟩ "BedsideNet" ∈ tables_1 := List.mem_of_getElem? (i := 115) (by decide +kernel)
theorem wg_116 : Cond.instanceMethod ⟨"BedsideNet$Device", "<init>", "()V"⟩ ∈ wsG := List.mem_filter.mpr ⟨List.mem_append_right _ (List.mem_of_getElem? (i := 116) (by decide +kernel)), by decide +kernel⟩
theorem wg_117 : Cond.code ⟨"BedsideNet$Device", "<init>", "()V"⟩ prog_4_method_1_code 2 (Option.none : Option FieldType) ∈ wsG := List.mem_filter.mpr ⟨List.mem_append_right _ (List.mem_append_left _ (List.mem_of_getElem? (i := 117) (by rfl))), by rfl⟩
theorem wg_118 : Cond.methodLink "BedsideNet$Device" 3 ⟨"java/lang/Object", "<init>", "()V"⟩ ∈ wsG := List.mem_filter.mpr ⟨List.mem_append_right _ (List.mem_of_getElem? (i := 118) (by decide +kernel)), by decide +kernel⟩
theorem wg_119 : Cond.classLink "BedsideNet$Device" 9 "BedsideNet$Channel" ∈ wsG := List.mem_filter.mpr ⟨List.mem_append_right _ (List.mem_of_getElem? (i := 119) (by decide +kernel)), by decide +kernel⟩
theorem wn_120 : Cond.arrayOver (FieldType.object "BedsideNet$Channel") ∈ tables_1 := List.mem_of_getElem? (i := 120) (by decide +kernel)
theorem wg_121 : Cond.classLink "BedsideNet$Device" 17 "BedsideNet$Setting" ∈ wsG := List.mem_filter.mpr ⟨List.mem_append_right _ (List.mem_of_getElem? (i := 121) (by decide +kernel)), by decide +kernel⟩
theorem wg_122 : Cond.instantiable "BedsideNet$Setting" 6 ∈ wsG := List.mem_filter.mpr ⟨List.mem_append_right _ (List.mem_of_getElem? (i := 122) (by decide +kernel)), by decide +kernel⟩
theorem wn_123 : Cond.methodLinkNest "BedsideNet$Device" 19 ⟨"BedsideNet$Setting", "<init>", "()V"⟩ "BedsideNet" ∈ tables_1 := List.mem_of_getElem? (i := 123) (by decide +kernel)
theorem wg_124 : Cond.instanceMethod ⟨"BedsideNet$Setting", "<init>", "()V"⟩ ∈ wsG := List.mem_filter.mpr ⟨List.mem_append_right _ (List.mem_of_getElem? (i := 124) (by decide +kernel)), by decide +kernel⟩
theorem wg_125 : Cond.code ⟨"BedsideNet$Setting", "<init>", "()V"⟩ prog_11_method_1_code 1 (Option.none : Option FieldType) ∈ wsG := List.mem_filter.mpr ⟨List.mem_append_right _ (List.mem_append_left _ (List.mem_of_getElem? (i := 125) (by rfl))), by rfl⟩
theorem wg_126 : Cond.methodLink "BedsideNet$Setting" 3 ⟨"java/lang/Object", "<init>", "()V"⟩ ∈ wsG := List.mem_filter.mpr ⟨List.mem_append_right _ (List.mem_of_getElem? (i := 126) (by decide +kernel)), by decide +kernel⟩
theorem wg_127 : Cond.classLink "BedsideNet$Setting" 9 "BedsideNet$Range" ∈ wsG := List.mem_filter.mpr ⟨List.mem_append_right _ (List.mem_of_getElem? (i := 127) (by decide +kernel)), by decide +kernel⟩
theorem wg_128 : Cond.instantiable "BedsideNet$Range" 3 ∈ wsG := List.mem_filter.mpr ⟨List.mem_append_right _ (List.mem_of_getElem? (i := 128) (by decide +kernel)), by decide +kernel⟩
theorem wn_129 : Cond.methodLinkNest "BedsideNet$Setting" 11 ⟨"BedsideNet$Range", "<init>", "()V"⟩ "BedsideNet" ∈ tables_1 := List.mem_of_getElem? (i := 129) (by decide +kernel)
theorem wg_130 : Cond.instanceMethod ⟨"BedsideNet$Range", "<init>", "()V"⟩ ∈ wsG := List.mem_filter.mpr ⟨List.mem_append_right _ (List.mem_of_getElem? (i := 130) (by decide +kernel)), by decide +kernel⟩
theorem wg_131 : Cond.code ⟨"BedsideNet$Range", "<init>", "()V"⟩ prog_10_method_1_code 1 (Option.none : Option FieldType) ∈ wsG := List.mem_filter.mpr ⟨List.mem_append_right _ (List.mem_append_left _ (List.mem_of_getElem? (i := 131) (by rfl))), by rfl⟩
theorem wg_132 : Cond.methodLink "BedsideNet$Range" 1 ⟨"java/lang/Object", "<init>", "()V"⟩ ∈ wsG := List.mem_filter.mpr ⟨List.mem_append_right _ (List.mem_of_getElem? (i := 132) (by decide +kernel)), by decide +kernel⟩
theorem wg_133 : Cond.fieldLink "BedsideNet$Range" 13 "BedsideNet$Range" "low" "I" ∈ wsG := List.mem_filter.mpr ⟨List.mem_append_right _ (List.mem_of_getElem? (i := 133) (by decide +kernel)), by decide +kernel⟩
theorem wg_134 : Cond.fieldLink "BedsideNet$Range" 16 "BedsideNet$Range" "high" "I" ∈ wsG := List.mem_filter.mpr ⟨List.mem_append_right _ (List.mem_of_getElem? (i := 134) (by decide +kernel)), by decide +kernel⟩
theorem wg_135 : Cond.fieldLink "BedsideNet$Range" 7 "BedsideNet$Range" "step" "I" ∈ wsG := List.mem_filter.mpr ⟨List.mem_append_right _ (List.mem_of_getElem? (i := 135) (by decide +kernel)), by decide +kernel⟩
theorem wg_136 : Cond.lays "BedsideNet$Range" "BedsideNet$Range" "low" "I" ∈ wsG := List.mem_filter.mpr ⟨List.mem_append_right _ (List.mem_of_getElem? (i := 136) (by decide +kernel)), by decide +kernel⟩
theorem wg_138 : Cond.lays "BedsideNet$Range" "BedsideNet$Range" "high" "I" ∈ wsG := List.mem_filter.mpr ⟨List.mem_append_right _ (List.mem_of_getElem? (i := 138) (by decide +kernel)), by decide +kernel⟩
theorem wg_140 : Cond.lays "BedsideNet$Range" "BedsideNet$Range" "step" "I" ∈ wsG := List.mem_filter.mpr ⟨List.mem_append_right _ (List.mem_of_getElem? (i := 140) (by decide +kernel)), by decide +kernel⟩
theorem wg_143 : Cond.constant "BedsideNet$Setting" 22 (-1000000) ∈ wsG := List.mem_filter.mpr ⟨List.mem_append_right _ (List.mem_of_getElem? (i := 143) (by decide +kernel)), by decide +kernel⟩
theorem wg_144 : Cond.fieldLink "BedsideNet$Setting" 12 "BedsideNet$Setting" "range" "LBedsideNet$Range;" ∈ wsG := List.mem_filter.mpr ⟨List.mem_append_right _ (List.mem_of_getElem? (i := 144) (by decide +kernel)), by decide +kernel⟩
theorem wn_145 : Cond.fieldLinkNest "BedsideNet" 296 "BedsideNet$Setting" "range" "LBedsideNet$Range;" "BedsideNet" ∈ tables_1 := List.mem_of_getElem? (i := 145) (by decide +kernel)
theorem wg_146 : Cond.fieldLink "BedsideNet$Setting" 26 "BedsideNet$Setting" "present" "Z" ∈ wsG := List.mem_filter.mpr ⟨List.mem_append_right _ (List.mem_of_getElem? (i := 146) (by decide +kernel)), by decide +kernel⟩
theorem wn_147 : Cond.fieldLinkNest "BedsideNet$Device" 45 "BedsideNet$Setting" "present" "Z" "BedsideNet" ∈ tables_1 := List.mem_of_getElem? (i := 147) (by decide +kernel)
theorem wn_148 : Cond.fieldLinkNest "BedsideNet" 361 "BedsideNet$Setting" "present" "Z" "BedsideNet" ∈ tables_1 := List.mem_of_getElem? (i := 148) (by decide +kernel)
theorem wg_149 : Cond.fieldLink "BedsideNet$Setting" 34 "BedsideNet$Setting" "value" "I" ∈ wsG := List.mem_filter.mpr ⟨List.mem_append_right _ (List.mem_of_getElem? (i := 149) (by decide +kernel)), by decide +kernel⟩
theorem wn_150 : Cond.fieldLinkNest "BedsideNet" 286 "BedsideNet$Setting" "value" "I" "BedsideNet" ∈ tables_1 := List.mem_of_getElem? (i := 150) (by decide +kernel)
theorem wn_151 : Cond.fieldLinkNest "BedsideNet$Device" 55 "BedsideNet$Setting" "remote" "Z" "BedsideNet" ∈ tables_1 := List.mem_of_getElem? (i := 151) (by decide +kernel)
theorem wn_152 : Cond.fieldLinkNest "BedsideNet" 293 "BedsideNet$Setting" "remote" "Z" "BedsideNet" ∈ tables_1 := List.mem_of_getElem? (i := 152) (by decide +kernel)
theorem wg_153 : Cond.fieldLink "BedsideNet$Setting" 18 "BedsideNet$Setting" "controller" "I" ∈ wsG := List.mem_filter.mpr ⟨List.mem_append_right _ (List.mem_of_getElem? (i := 153) (by decide +kernel)), by decide +kernel⟩
theorem wn_154 : Cond.fieldLinkNest "BedsideNet" 337 "BedsideNet$Setting" "controller" "I" "BedsideNet" ∈ tables_1 := List.mem_of_getElem? (i := 154) (by decide +kernel)
theorem wg_155 : Cond.fieldLink "BedsideNet$Setting" 23 "BedsideNet$Setting" "leasedAt" "I" ∈ wsG := List.mem_filter.mpr ⟨List.mem_append_right _ (List.mem_of_getElem? (i := 155) (by decide +kernel)), by decide +kernel⟩
theorem wn_156 : Cond.fieldLinkNest "BedsideNet$Device" 52 "BedsideNet$Setting" "leasedAt" "I" "BedsideNet" ∈ tables_1 := List.mem_of_getElem? (i := 156) (by decide +kernel)
theorem wn_157 : Cond.fieldLinkNest "BedsideNet" 338 "BedsideNet$Setting" "leasedAt" "I" "BedsideNet" ∈ tables_1 := List.mem_of_getElem? (i := 157) (by decide +kernel)
theorem wg_158 : Cond.laysFinal "BedsideNet$Setting" "BedsideNet$Setting" "range" "LBedsideNet$Range;" ∈ wsG := List.mem_filter.mpr ⟨List.mem_append_right _ (List.mem_of_getElem? (i := 158) (by decide +kernel)), by decide +kernel⟩
theorem wg_160 : Cond.lays "BedsideNet$Setting" "BedsideNet$Setting" "present" "Z" ∈ wsG := List.mem_filter.mpr ⟨List.mem_append_right _ (List.mem_of_getElem? (i := 160) (by decide +kernel)), by decide +kernel⟩
theorem wg_162 : Cond.lays "BedsideNet$Setting" "BedsideNet$Setting" "value" "I" ∈ wsG := List.mem_filter.mpr ⟨List.mem_append_right _ (List.mem_of_getElem? (i := 162) (by decide +kernel)), by decide +kernel⟩
theorem wg_164 : Cond.lays "BedsideNet$Setting" "BedsideNet$Setting" "remote" "Z" ∈ wsG := List.mem_filter.mpr ⟨List.mem_append_right _ (List.mem_of_getElem? (i := 164) (by decide +kernel)), by decide +kernel⟩
theorem wg_166 : Cond.lays "BedsideNet$Setting" "BedsideNet$Setting" "controller" "I" ∈ wsG := List.mem_filter.mpr ⟨List.mem_append_right _ (List.mem_of_getElem? (i := 166) (by decide +kernel)), by decide +kernel⟩
theorem wg_168 : Cond.lays "BedsideNet$Setting" "BedsideNet$Setting" "leasedAt" "I" ∈ wsG := List.mem_filter.mpr ⟨List.mem_append_right _ (List.mem_of_getElem? (i := 168) (by decide +kernel)), by decide +kernel⟩
theorem wg_171 : Cond.constant "BedsideNet$Device" 34 (-1000000) ∈ wsG := List.mem_filter.mpr ⟨List.mem_append_right _ (List.mem_of_getElem? (i := 171) (by decide +kernel)), by decide +kernel⟩
theorem wg_172 : Cond.instantiable "BedsideNet$Channel" 9 ∈ wsG := List.mem_filter.mpr ⟨List.mem_append_right _ (List.mem_of_getElem? (i := 172) (by decide +kernel)), by decide +kernel⟩
theorem wn_173 : Cond.methodLinkNest "BedsideNet$Device" 41 ⟨"BedsideNet$Channel", "<init>", "()V"⟩ "BedsideNet" ∈ tables_1 := List.mem_of_getElem? (i := 173) (by decide +kernel)
theorem wg_174 : Cond.instanceMethod ⟨"BedsideNet$Channel", "<init>", "()V"⟩ ∈ wsG := List.mem_filter.mpr ⟨List.mem_append_right _ (List.mem_of_getElem? (i := 174) (by decide +kernel)), by decide +kernel⟩
theorem wg_175 : Cond.code ⟨"BedsideNet$Channel", "<init>", "()V"⟩ prog_3_method_1_code 1 (Option.none : Option FieldType) ∈ wsG := List.mem_filter.mpr ⟨List.mem_append_right _ (List.mem_append_left _ (List.mem_of_getElem? (i := 175) (by rfl))), by rfl⟩
theorem wg_176 : Cond.methodLink "BedsideNet$Channel" 3 ⟨"java/lang/Object", "<init>", "()V"⟩ ∈ wsG := List.mem_filter.mpr ⟨List.mem_append_right _ (List.mem_of_getElem? (i := 176) (by decide +kernel)), by decide +kernel⟩
theorem wg_177 : Cond.classLink "BedsideNet$Channel" 9 "BedsideNet$Range" ∈ wsG := List.mem_filter.mpr ⟨List.mem_append_right _ (List.mem_of_getElem? (i := 177) (by decide +kernel)), by decide +kernel⟩
theorem wn_178 : Cond.methodLinkNest "BedsideNet$Channel" 11 ⟨"BedsideNet$Range", "<init>", "()V"⟩ "BedsideNet" ∈ tables_1 := List.mem_of_getElem? (i := 178) (by decide +kernel)
theorem wg_179 : Cond.classLink "BedsideNet$Channel" 18 "BedsideNet$Alarm" ∈ wsG := List.mem_filter.mpr ⟨List.mem_append_right _ (List.mem_of_getElem? (i := 179) (by decide +kernel)), by decide +kernel⟩
theorem wg_180 : Cond.instantiable "BedsideNet$Alarm" 10 ∈ wsG := List.mem_filter.mpr ⟨List.mem_append_right _ (List.mem_of_getElem? (i := 180) (by decide +kernel)), by decide +kernel⟩
theorem wn_181 : Cond.methodLinkNest "BedsideNet$Channel" 20 ⟨"BedsideNet$Alarm", "<init>", "()V"⟩ "BedsideNet" ∈ tables_1 := List.mem_of_getElem? (i := 181) (by decide +kernel)
theorem wg_182 : Cond.instanceMethod ⟨"BedsideNet$Alarm", "<init>", "()V"⟩ ∈ wsG := List.mem_filter.mpr ⟨List.mem_append_right _ (List.mem_of_getElem? (i := 182) (by decide +kernel)), by decide +kernel⟩
theorem wg_183 : Cond.code ⟨"BedsideNet$Alarm", "<init>", "()V"⟩ prog_2_method_1_code 1 (Option.none : Option FieldType) ∈ wsG := List.mem_filter.mpr ⟨List.mem_append_right _ (List.mem_append_left _ (List.mem_of_getElem? (i := 183) (by rfl))), by rfl⟩
theorem wg_184 : Cond.methodLink "BedsideNet$Alarm" 3 ⟨"java/lang/Object", "<init>", "()V"⟩ ∈ wsG := List.mem_filter.mpr ⟨List.mem_append_right _ (List.mem_of_getElem? (i := 184) (by decide +kernel)), by decide +kernel⟩
theorem wg_185 : Cond.fieldLink "BedsideNet$Alarm" 9 "BedsideNet$Alarm" "present" "Z" ∈ wsG := List.mem_filter.mpr ⟨List.mem_append_right _ (List.mem_of_getElem? (i := 185) (by decide +kernel)), by decide +kernel⟩
theorem wn_186 : Cond.fieldLinkNest "BedsideNet$Channel" 44 "BedsideNet$Alarm" "present" "Z" "BedsideNet" ∈ tables_1 := List.mem_of_getElem? (i := 186) (by decide +kernel)
theorem wn_187 : Cond.fieldLinkNest "BedsideNet" 325 "BedsideNet$Alarm" "present" "Z" "BedsideNet" ∈ tables_1 := List.mem_of_getElem? (i := 187) (by decide +kernel)
theorem wg_188 : Cond.fieldLink "BedsideNet$Alarm" 15 "BedsideNet$Alarm" "priority" "I" ∈ wsG := List.mem_filter.mpr ⟨List.mem_append_right _ (List.mem_of_getElem? (i := 188) (by decide +kernel)), by decide +kernel⟩
theorem wg_189 : Cond.fieldLink "BedsideNet$Alarm" 19 "BedsideNet$Alarm" "limit" "I" ∈ wsG := List.mem_filter.mpr ⟨List.mem_append_right _ (List.mem_of_getElem? (i := 189) (by decide +kernel)), by decide +kernel⟩
theorem wg_190 : Cond.fieldLink "BedsideNet$Alarm" 22 "BedsideNet$Alarm" "delay" "I" ∈ wsG := List.mem_filter.mpr ⟨List.mem_append_right _ (List.mem_of_getElem? (i := 190) (by decide +kernel)), by decide +kernel⟩
theorem wg_191 : Cond.fieldLink "BedsideNet$Alarm" 25 "BedsideNet$Alarm" "above" "Z" ∈ wsG := List.mem_filter.mpr ⟨List.mem_append_right _ (List.mem_of_getElem? (i := 191) (by decide +kernel)), by decide +kernel⟩
theorem wg_192 : Cond.fieldLink "BedsideNet$Alarm" 28 "BedsideNet$Alarm" "aboveSince" "I" ∈ wsG := List.mem_filter.mpr ⟨List.mem_append_right _ (List.mem_of_getElem? (i := 192) (by decide +kernel)), by decide +kernel⟩
theorem wg_193 : Cond.fieldLink "BedsideNet$Alarm" 31 "BedsideNet$Alarm" "inhibitedUntil" "I" ∈ wsG := List.mem_filter.mpr ⟨List.mem_append_right _ (List.mem_of_getElem? (i := 193) (by decide +kernel)), by decide +kernel⟩
theorem wn_194 : Cond.fieldLinkNest "BedsideNet" 328 "BedsideNet$Alarm" "inhibitedUntil" "I" "BedsideNet" ∈ tables_1 := List.mem_of_getElem? (i := 194) (by decide +kernel)
theorem wg_195 : Cond.fieldLink "BedsideNet$Alarm" 34 "BedsideNet$Alarm" "on" "Z" ∈ wsG := List.mem_filter.mpr ⟨List.mem_append_right _ (List.mem_of_getElem? (i := 195) (by decide +kernel)), by decide +kernel⟩
theorem wn_196 : Cond.fieldLinkNest "BedsideNet" 171 "BedsideNet$Alarm" "on" "Z" "BedsideNet" ∈ tables_1 := List.mem_of_getElem? (i := 196) (by decide +kernel)
theorem wg_197 : Cond.fieldLink "BedsideNet$Alarm" 37 "BedsideNet$Alarm" "acknowledged" "Z" ∈ wsG := List.mem_filter.mpr ⟨List.mem_append_right _ (List.mem_of_getElem? (i := 197) (by decide +kernel)), by decide +kernel⟩
theorem wg_198 : Cond.fieldLink "BedsideNet$Alarm" 46 "BedsideNet$Alarm" "beganAt" "I" ∈ wsG := List.mem_filter.mpr ⟨List.mem_append_right _ (List.mem_of_getElem? (i := 198) (by decide +kernel)), by decide +kernel⟩
theorem wg_199 : Cond.lays "BedsideNet$Alarm" "BedsideNet$Alarm" "present" "Z" ∈ wsG := List.mem_filter.mpr ⟨List.mem_append_right _ (List.mem_of_getElem? (i := 199) (by decide +kernel)), by decide +kernel⟩
theorem wg_201 : Cond.lays "BedsideNet$Alarm" "BedsideNet$Alarm" "priority" "I" ∈ wsG := List.mem_filter.mpr ⟨List.mem_append_right _ (List.mem_of_getElem? (i := 201) (by decide +kernel)), by decide +kernel⟩
theorem wg_203 : Cond.lays "BedsideNet$Alarm" "BedsideNet$Alarm" "limit" "I" ∈ wsG := List.mem_filter.mpr ⟨List.mem_append_right _ (List.mem_of_getElem? (i := 203) (by decide +kernel)), by decide +kernel⟩
theorem wg_205 : Cond.lays "BedsideNet$Alarm" "BedsideNet$Alarm" "delay" "I" ∈ wsG := List.mem_filter.mpr ⟨List.mem_append_right _ (List.mem_of_getElem? (i := 205) (by decide +kernel)), by decide +kernel⟩
theorem wg_207 : Cond.lays "BedsideNet$Alarm" "BedsideNet$Alarm" "above" "Z" ∈ wsG := List.mem_filter.mpr ⟨List.mem_append_right _ (List.mem_of_getElem? (i := 207) (by decide +kernel)), by decide +kernel⟩
theorem wg_209 : Cond.lays "BedsideNet$Alarm" "BedsideNet$Alarm" "aboveSince" "I" ∈ wsG := List.mem_filter.mpr ⟨List.mem_append_right _ (List.mem_of_getElem? (i := 209) (by decide +kernel)), by decide +kernel⟩
theorem wg_211 : Cond.lays "BedsideNet$Alarm" "BedsideNet$Alarm" "inhibitedUntil" "I" ∈ wsG := List.mem_filter.mpr ⟨List.mem_append_right _ (List.mem_of_getElem? (i := 211) (by decide +kernel)), by decide +kernel⟩
theorem wg_213 : Cond.lays "BedsideNet$Alarm" "BedsideNet$Alarm" "on" "Z" ∈ wsG := List.mem_filter.mpr ⟨List.mem_append_right _ (List.mem_of_getElem? (i := 213) (by decide +kernel)), by decide +kernel⟩
theorem wg_215 : Cond.lays "BedsideNet$Alarm" "BedsideNet$Alarm" "acknowledged" "Z" ∈ wsG := List.mem_filter.mpr ⟨List.mem_append_right _ (List.mem_of_getElem? (i := 215) (by decide +kernel)), by decide +kernel⟩
theorem wg_217 : Cond.lays "BedsideNet$Alarm" "BedsideNet$Alarm" "beganAt" "I" ∈ wsG := List.mem_filter.mpr ⟨List.mem_append_right _ (List.mem_of_getElem? (i := 217) (by decide +kernel)), by decide +kernel⟩
theorem wg_220 : Cond.classLink "BedsideNet$Channel" 25 "BedsideNet$Known" ∈ wsG := List.mem_filter.mpr ⟨List.mem_append_right _ (List.mem_of_getElem? (i := 220) (by decide +kernel)), by decide +kernel⟩
theorem wg_221 : Cond.instantiable "BedsideNet$Known" 3 ∈ wsG := List.mem_filter.mpr ⟨List.mem_append_right _ (List.mem_of_getElem? (i := 221) (by decide +kernel)), by decide +kernel⟩
theorem wn_222 : Cond.methodLinkNest "BedsideNet$Channel" 27 ⟨"BedsideNet$Known", "<init>", "()V"⟩ "BedsideNet" ∈ tables_1 := List.mem_of_getElem? (i := 222) (by decide +kernel)
theorem wg_223 : Cond.instanceMethod ⟨"BedsideNet$Known", "<init>", "()V"⟩ ∈ wsG := List.mem_filter.mpr ⟨List.mem_append_right _ (List.mem_of_getElem? (i := 223) (by decide +kernel)), by decide +kernel⟩
theorem wg_224 : Cond.code ⟨"BedsideNet$Known", "<init>", "()V"⟩ prog_6_method_1_code 1 (Option.none : Option FieldType) ∈ wsG := List.mem_filter.mpr ⟨List.mem_append_right _ (List.mem_append_left _ (List.mem_of_getElem? (i := 224) (by rfl))), by rfl⟩
theorem wg_225 : Cond.methodLink "BedsideNet$Known" 3 ⟨"java/lang/Object", "<init>", "()V"⟩ ∈ wsG := List.mem_filter.mpr ⟨List.mem_append_right _ (List.mem_of_getElem? (i := 225) (by decide +kernel)), by decide +kernel⟩
theorem wg_226 : Cond.fieldLink "BedsideNet$Known" 9 "BedsideNet$Known" "number" "I" ∈ wsG := List.mem_filter.mpr ⟨List.mem_append_right _ (List.mem_of_getElem? (i := 226) (by decide +kernel)), by decide +kernel⟩
theorem wn_227 : Cond.fieldLinkNest "BedsideNet" 270 "BedsideNet$Known" "number" "I" "BedsideNet" ∈ tables_1 := List.mem_of_getElem? (i := 227) (by decide +kernel)
theorem wg_228 : Cond.fieldLink "BedsideNet$Known" 15 "BedsideNet$Known" "on" "Z" ∈ wsG := List.mem_filter.mpr ⟨List.mem_append_right _ (List.mem_of_getElem? (i := 228) (by decide +kernel)), by decide +kernel⟩
theorem wn_229 : Cond.fieldLinkNest "BedsideNet" 277 "BedsideNet$Known" "on" "Z" "BedsideNet" ∈ tables_1 := List.mem_of_getElem? (i := 229) (by decide +kernel)
theorem wg_230 : Cond.fieldLink "BedsideNet$Known" 19 "BedsideNet$Known" "acknowledged" "Z" ∈ wsG := List.mem_filter.mpr ⟨List.mem_append_right _ (List.mem_of_getElem? (i := 230) (by decide +kernel)), by decide +kernel⟩
theorem wn_231 : Cond.fieldLinkNest "BedsideNet" 322 "BedsideNet$Known" "acknowledged" "Z" "BedsideNet" ∈ tables_1 := List.mem_of_getElem? (i := 231) (by decide +kernel)
theorem wg_232 : Cond.lays "BedsideNet$Known" "BedsideNet$Known" "number" "I" ∈ wsG := List.mem_filter.mpr ⟨List.mem_append_right _ (List.mem_of_getElem? (i := 232) (by decide +kernel)), by decide +kernel⟩
theorem wg_234 : Cond.lays "BedsideNet$Known" "BedsideNet$Known" "on" "Z" ∈ wsG := List.mem_filter.mpr ⟨List.mem_append_right _ (List.mem_of_getElem? (i := 234) (by decide +kernel)), by decide +kernel⟩
theorem wg_236 : Cond.lays "BedsideNet$Known" "BedsideNet$Known" "acknowledged" "Z" ∈ wsG := List.mem_filter.mpr ⟨List.mem_append_right _ (List.mem_of_getElem? (i := 236) (by decide +kernel)), by decide +kernel⟩
theorem wg_239 : Cond.constant "BedsideNet$Channel" 32 (-1000000) ∈ wsG := List.mem_filter.mpr ⟨List.mem_append_right _ (List.mem_of_getElem? (i := 239) (by decide +kernel)), by decide +kernel⟩
theorem wg_240 : Cond.fieldLink "BedsideNet$Channel" 12 "BedsideNet$Channel" "range" "LBedsideNet$Range;" ∈ wsG := List.mem_filter.mpr ⟨List.mem_append_right _ (List.mem_of_getElem? (i := 240) (by decide +kernel)), by decide +kernel⟩
theorem wn_241 : Cond.fieldLinkNest "BedsideNet" 129 "BedsideNet$Channel" "range" "LBedsideNet$Range;" "BedsideNet" ∈ tables_1 := List.mem_of_getElem? (i := 241) (by decide +kernel)
theorem wg_242 : Cond.fieldLink "BedsideNet$Channel" 21 "BedsideNet$Channel" "alarm" "LBedsideNet$Alarm;" ∈ wsG := List.mem_filter.mpr ⟨List.mem_append_right _ (List.mem_of_getElem? (i := 242) (by decide +kernel)), by decide +kernel⟩
theorem wn_243 : Cond.fieldLinkNest "BedsideNet" 100 "BedsideNet$Channel" "alarm" "LBedsideNet$Alarm;" "BedsideNet" ∈ tables_1 := List.mem_of_getElem? (i := 243) (by decide +kernel)
theorem wn_244 : Cond.fieldLinkNest "BedsideNet$Device" 67 "BedsideNet$Channel" "alarm" "LBedsideNet$Alarm;" "BedsideNet" ∈ tables_1 := List.mem_of_getElem? (i := 244) (by decide +kernel)
theorem wg_245 : Cond.fieldLink "BedsideNet$Channel" 28 "BedsideNet$Channel" "known" "LBedsideNet$Known;" ∈ wsG := List.mem_filter.mpr ⟨List.mem_append_right _ (List.mem_of_getElem? (i := 245) (by decide +kernel)), by decide +kernel⟩
theorem wn_246 : Cond.fieldLinkNest "BedsideNet$Device" 77 "BedsideNet$Channel" "known" "LBedsideNet$Known;" "BedsideNet" ∈ tables_1 := List.mem_of_getElem? (i := 246) (by decide +kernel)
theorem wn_247 : Cond.fieldLinkNest "BedsideNet" 254 "BedsideNet$Channel" "known" "LBedsideNet$Known;" "BedsideNet" ∈ tables_1 := List.mem_of_getElem? (i := 247) (by decide +kernel)
theorem wg_248 : Cond.fieldLink "BedsideNet$Channel" 37 "BedsideNet$Channel" "unit" "I" ∈ wsG := List.mem_filter.mpr ⟨List.mem_append_right _ (List.mem_of_getElem? (i := 248) (by decide +kernel)), by decide +kernel⟩
theorem wn_249 : Cond.fieldLinkNest "BedsideNet$Device" 64 "BedsideNet$Channel" "unit" "I" "BedsideNet" ∈ tables_1 := List.mem_of_getElem? (i := 249) (by decide +kernel)
theorem wg_250 : Cond.fieldLink "BedsideNet$Channel" 48 "BedsideNet$Channel" "hasValue" "Z" ∈ wsG := List.mem_filter.mpr ⟨List.mem_append_right _ (List.mem_of_getElem? (i := 250) (by decide +kernel)), by decide +kernel⟩
theorem wn_251 : Cond.fieldLinkNest "BedsideNet" 369 "BedsideNet$Channel" "hasValue" "Z" "BedsideNet" ∈ tables_1 := List.mem_of_getElem? (i := 251) (by decide +kernel)
theorem wg_252 : Cond.fieldLink "BedsideNet$Channel" 51 "BedsideNet$Channel" "value" "I" ∈ wsG := List.mem_filter.mpr ⟨List.mem_append_right _ (List.mem_of_getElem? (i := 252) (by decide +kernel)), by decide +kernel⟩
theorem wn_253 : Cond.fieldLinkNest "BedsideNet" 220 "BedsideNet$Channel" "value" "I" "BedsideNet" ∈ tables_1 := List.mem_of_getElem? (i := 253) (by decide +kernel)
theorem wg_254 : Cond.fieldLink "BedsideNet$Channel" 54 "BedsideNet$Channel" "measuredAt" "I" ∈ wsG := List.mem_filter.mpr ⟨List.mem_append_right _ (List.mem_of_getElem? (i := 254) (by decide +kernel)), by decide +kernel⟩
theorem wn_255 : Cond.fieldLinkNest "BedsideNet" 223 "BedsideNet$Channel" "measuredAt" "I" "BedsideNet" ∈ tables_1 := List.mem_of_getElem? (i := 255) (by decide +kernel)
theorem wg_256 : Cond.fieldLink "BedsideNet$Channel" 57 "BedsideNet$Channel" "measuredInTie" "Z" ∈ wsG := List.mem_filter.mpr ⟨List.mem_append_right _ (List.mem_of_getElem? (i := 256) (by decide +kernel)), by decide +kernel⟩
theorem wn_257 : Cond.fieldLinkNest "BedsideNet$Device" 61 "BedsideNet$Channel" "measuredInTie" "Z" "BedsideNet" ∈ tables_1 := List.mem_of_getElem? (i := 257) (by decide +kernel)
theorem wn_258 : Cond.fieldLinkNest "BedsideNet" 161 "BedsideNet$Channel" "measuredInTie" "Z" "BedsideNet" ∈ tables_1 := List.mem_of_getElem? (i := 258) (by decide +kernel)
theorem wg_259 : Cond.fieldLink "BedsideNet$Channel" 33 "BedsideNet$Channel" "valueSentAt" "I" ∈ wsG := List.mem_filter.mpr ⟨List.mem_append_right _ (List.mem_of_getElem? (i := 259) (by decide +kernel)), by decide +kernel⟩
theorem wn_260 : Cond.fieldLinkNest "BedsideNet" 165 "BedsideNet$Channel" "valueSentAt" "I" "BedsideNet" ∈ tables_1 := List.mem_of_getElem? (i := 260) (by decide +kernel)
theorem wg_261 : Cond.laysFinal "BedsideNet$Channel" "BedsideNet$Channel" "range" "LBedsideNet$Range;" ∈ wsG := List.mem_filter.mpr ⟨List.mem_append_right _ (List.mem_of_getElem? (i := 261) (by decide +kernel)), by decide +kernel⟩
theorem wg_263 : Cond.laysFinal "BedsideNet$Channel" "BedsideNet$Channel" "alarm" "LBedsideNet$Alarm;" ∈ wsG := List.mem_filter.mpr ⟨List.mem_append_right _ (List.mem_of_getElem? (i := 263) (by decide +kernel)), by decide +kernel⟩
theorem wg_265 : Cond.laysFinal "BedsideNet$Channel" "BedsideNet$Channel" "known" "LBedsideNet$Known;" ∈ wsG := List.mem_filter.mpr ⟨List.mem_append_right _ (List.mem_of_getElem? (i := 265) (by decide +kernel)), by decide +kernel⟩
theorem wg_267 : Cond.lays "BedsideNet$Channel" "BedsideNet$Channel" "unit" "I" ∈ wsG := List.mem_filter.mpr ⟨List.mem_append_right _ (List.mem_of_getElem? (i := 267) (by decide +kernel)), by decide +kernel⟩
theorem wg_269 : Cond.lays "BedsideNet$Channel" "BedsideNet$Channel" "hasValue" "Z" ∈ wsG := List.mem_filter.mpr ⟨List.mem_append_right _ (List.mem_of_getElem? (i := 269) (by decide +kernel)), by decide +kernel⟩
theorem wg_271 : Cond.lays "BedsideNet$Channel" "BedsideNet$Channel" "value" "I" ∈ wsG := List.mem_filter.mpr ⟨List.mem_append_right _ (List.mem_of_getElem? (i := 271) (by decide +kernel)), by decide +kernel⟩
theorem wg_273 : Cond.lays "BedsideNet$Channel" "BedsideNet$Channel" "measuredAt" "I" ∈ wsG := List.mem_filter.mpr ⟨List.mem_append_right _ (List.mem_of_getElem? (i := 273) (by decide +kernel)), by decide +kernel⟩
theorem wg_275 : Cond.lays "BedsideNet$Channel" "BedsideNet$Channel" "measuredInTie" "Z" ∈ wsG := List.mem_filter.mpr ⟨List.mem_append_right _ (List.mem_of_getElem? (i := 275) (by decide +kernel)), by decide +kernel⟩
theorem wg_277 : Cond.lays "BedsideNet$Channel" "BedsideNet$Channel" "valueSentAt" "I" ∈ wsG := List.mem_filter.mpr ⟨List.mem_append_right _ (List.mem_of_getElem? (i := 277) (by decide +kernel)), by decide +kernel⟩
theorem wg_280 : Cond.fieldLink "BedsideNet$Device" 11 "BedsideNet$Device" "channels" "[LBedsideNet$Channel;" ∈ wsG := List.mem_filter.mpr ⟨List.mem_append_right _ (List.mem_of_getElem? (i := 280) (by decide +kernel)), by decide +kernel⟩
theorem wn_281 : Cond.fieldLinkNest "BedsideNet" 82 "BedsideNet$Device" "channels" "[LBedsideNet$Channel;" "BedsideNet" ∈ tables_1 := List.mem_of_getElem? (i := 281) (by decide +kernel)
theorem wg_282 : Cond.fieldLink "BedsideNet$Device" 20 "BedsideNet$Device" "setting" "LBedsideNet$Setting;" ∈ wsG := List.mem_filter.mpr ⟨List.mem_append_right _ (List.mem_of_getElem? (i := 282) (by decide +kernel)), by decide +kernel⟩
theorem wn_283 : Cond.fieldLinkNest "BedsideNet" 110 "BedsideNet$Device" "setting" "LBedsideNet$Setting;" "BedsideNet" ∈ tables_1 := List.mem_of_getElem? (i := 283) (by decide +kernel)
theorem wg_284 : Cond.fieldLink "BedsideNet$Device" 24 "BedsideNet$Device" "state" "I" ∈ wsG := List.mem_filter.mpr ⟨List.mem_append_right _ (List.mem_of_getElem? (i := 284) (by decide +kernel)), by decide +kernel⟩
theorem wn_285 : Cond.fieldLinkNest "BedsideNet" 55 "BedsideNet$Device" "state" "I" "BedsideNet" ∈ tables_1 := List.mem_of_getElem? (i := 285) (by decide +kernel)
theorem wg_286 : Cond.fieldLink "BedsideNet$Device" 28 "BedsideNet$Device" "bed" "I" ∈ wsG := List.mem_filter.mpr ⟨List.mem_append_right _ (List.mem_of_getElem? (i := 286) (by decide +kernel)), by decide +kernel⟩
theorem wn_287 : Cond.fieldLinkNest "BedsideNet" 120 "BedsideNet$Device" "bed" "I" "BedsideNet" ∈ tables_1 := List.mem_of_getElem? (i := 287) (by decide +kernel)
theorem wg_288 : Cond.fieldLink "BedsideNet$Device" 31 "BedsideNet$Device" "life" "I" ∈ wsG := List.mem_filter.mpr ⟨List.mem_append_right _ (List.mem_of_getElem? (i := 288) (by decide +kernel)), by decide +kernel⟩
theorem wn_289 : Cond.fieldLinkNest "BedsideNet" 214 "BedsideNet$Device" "life" "I" "BedsideNet" ∈ tables_1 := List.mem_of_getElem? (i := 289) (by decide +kernel)
theorem wg_290 : Cond.fieldLink "BedsideNet$Device" 42 "BedsideNet$Device" "channelCount" "I" ∈ wsG := List.mem_filter.mpr ⟨List.mem_append_right _ (List.mem_of_getElem? (i := 290) (by decide +kernel)), by decide +kernel⟩
theorem wn_291 : Cond.fieldLinkNest "BedsideNet" 76 "BedsideNet$Device" "channelCount" "I" "BedsideNet" ∈ tables_1 := List.mem_of_getElem? (i := 291) (by decide +kernel)
theorem wg_292 : Cond.fieldLink "BedsideNet$Device" 49 "BedsideNet$Device" "tiedTo" "I" ∈ wsG := List.mem_filter.mpr ⟨List.mem_append_right _ (List.mem_of_getElem? (i := 292) (by decide +kernel)), by decide +kernel⟩
theorem wn_293 : Cond.fieldLinkNest "BedsideNet" 123 "BedsideNet$Device" "tiedTo" "I" "BedsideNet" ∈ tables_1 := List.mem_of_getElem? (i := 293) (by decide +kernel)
theorem wg_294 : Cond.fieldLink "BedsideNet$Device" 35 "BedsideNet$Device" "soundsCameAt" "I" ∈ wsG := List.mem_filter.mpr ⟨List.mem_append_right _ (List.mem_of_getElem? (i := 294) (by decide +kernel)), by decide +kernel⟩
theorem wn_295 : Cond.fieldLinkNest "BedsideNet" 261 "BedsideNet$Device" "soundsCameAt" "I" "BedsideNet" ∈ tables_1 := List.mem_of_getElem? (i := 295) (by decide +kernel)
theorem wg_296 : Cond.fieldLink "BedsideNet$Device" 38 "BedsideNet$Device" "soundsSentAt" "I" ∈ wsG := List.mem_filter.mpr ⟨List.mem_append_right _ (List.mem_of_getElem? (i := 296) (by decide +kernel)), by decide +kernel⟩
theorem wn_297 : Cond.fieldLinkNest "BedsideNet" 181 "BedsideNet$Device" "soundsSentAt" "I" "BedsideNet" ∈ tables_1 := List.mem_of_getElem? (i := 297) (by decide +kernel)
theorem wg_298 : Cond.laysFinal "BedsideNet$Device" "BedsideNet$Device" "channels" "[LBedsideNet$Channel;" ∈ wsG := List.mem_filter.mpr ⟨List.mem_append_right _ (List.mem_of_getElem? (i := 298) (by decide +kernel)), by decide +kernel⟩
theorem wg_300 : Cond.laysFinal "BedsideNet$Device" "BedsideNet$Device" "setting" "LBedsideNet$Setting;" ∈ wsG := List.mem_filter.mpr ⟨List.mem_append_right _ (List.mem_of_getElem? (i := 300) (by decide +kernel)), by decide +kernel⟩
theorem wg_302 : Cond.lays "BedsideNet$Device" "BedsideNet$Device" "state" "I" ∈ wsG := List.mem_filter.mpr ⟨List.mem_append_right _ (List.mem_of_getElem? (i := 302) (by decide +kernel)), by decide +kernel⟩
theorem wg_304 : Cond.lays "BedsideNet$Device" "BedsideNet$Device" "bed" "I" ∈ wsG := List.mem_filter.mpr ⟨List.mem_append_right _ (List.mem_of_getElem? (i := 304) (by decide +kernel)), by decide +kernel⟩
theorem wg_306 : Cond.lays "BedsideNet$Device" "BedsideNet$Device" "life" "I" ∈ wsG := List.mem_filter.mpr ⟨List.mem_append_right _ (List.mem_of_getElem? (i := 306) (by decide +kernel)), by decide +kernel⟩
theorem wg_308 : Cond.lays "BedsideNet$Device" "BedsideNet$Device" "channelCount" "I" ∈ wsG := List.mem_filter.mpr ⟨List.mem_append_right _ (List.mem_of_getElem? (i := 308) (by decide +kernel)), by decide +kernel⟩
theorem wg_310 : Cond.lays "BedsideNet$Device" "BedsideNet$Device" "tiedTo" "I" ∈ wsG := List.mem_filter.mpr ⟨List.mem_append_right _ (List.mem_of_getElem? (i := 310) (by decide +kernel)), by decide +kernel⟩
theorem wg_312 : Cond.lays "BedsideNet$Device" "BedsideNet$Device" "soundsCameAt" "I" ∈ wsG := List.mem_filter.mpr ⟨List.mem_append_right _ (List.mem_of_getElem? (i := 312) (by decide +kernel)), by decide +kernel⟩
theorem wg_314 : Cond.lays "BedsideNet$Device" "BedsideNet$Device" "soundsSentAt" "I" ∈ wsG := List.mem_filter.mpr ⟨List.mem_append_right _ (List.mem_of_getElem? (i := 314) (by decide +kernel)), by decide +kernel⟩
theorem wg_317 : Cond.instantiable "BedsideNet$Display" 8 ∈ wsG := List.mem_filter.mpr ⟨List.mem_append_right _ (List.mem_of_getElem? (i := 317) (by decide +kernel)), by decide +kernel⟩
theorem wn_318 : Cond.methodLinkNest "BedsideNet" 46 ⟨"BedsideNet$Display", "<init>", "()V"⟩ "BedsideNet" ∈ tables_1 := List.mem_of_getElem? (i := 318) (by decide +kernel)
theorem wg_319 : Cond.instanceMethod ⟨"BedsideNet$Display", "<init>", "()V"⟩ ∈ wsG := List.mem_filter.mpr ⟨List.mem_append_right _ (List.mem_of_getElem? (i := 319) (by decide +kernel)), by decide +kernel⟩
theorem wg_320 : Cond.code ⟨"BedsideNet$Display", "<init>", "()V"⟩ prog_5_method_1_code 1 (Option.none : Option FieldType) ∈ wsG := List.mem_filter.mpr ⟨List.mem_append_right _ (List.mem_append_right _ (List.mem_append_left _ (List.mem_of_getElem? (i := 80) (by rfl)))), by rfl⟩
theorem wg_321 : Cond.methodLink "BedsideNet$Display" 3 ⟨"java/lang/Object", "<init>", "()V"⟩ ∈ wsG := List.mem_filter.mpr ⟨List.mem_append_right _ (List.mem_of_getElem? (i := 321) (by decide +kernel)), by decide +kernel⟩
theorem wg_322 : Cond.constant "BedsideNet$Display" 15 (-1000000) ∈ wsG := List.mem_filter.mpr ⟨List.mem_append_right _ (List.mem_of_getElem? (i := 322) (by decide +kernel)), by decide +kernel⟩
theorem wg_323 : Cond.fieldLink "BedsideNet$Display" 19 "BedsideNet$Display" "device" "I" ∈ wsG := List.mem_filter.mpr ⟨List.mem_append_right _ (List.mem_of_getElem? (i := 323) (by decide +kernel)), by decide +kernel⟩
theorem wn_324 : Cond.fieldLinkNest "BedsideNet" 310 "BedsideNet$Display" "device" "I" "BedsideNet" ∈ tables_1 := List.mem_of_getElem? (i := 324) (by decide +kernel)
theorem wg_325 : Cond.fieldLink "BedsideNet$Display" 22 "BedsideNet$Display" "channel" "I" ∈ wsG := List.mem_filter.mpr ⟨List.mem_append_right _ (List.mem_of_getElem? (i := 325) (by decide +kernel)), by decide +kernel⟩
theorem wn_326 : Cond.fieldLinkNest "BedsideNet" 311 "BedsideNet$Display" "channel" "I" "BedsideNet" ∈ tables_1 := List.mem_of_getElem? (i := 326) (by decide +kernel)
theorem wg_327 : Cond.fieldLink "BedsideNet$Display" 25 "BedsideNet$Display" "life" "I" ∈ wsG := List.mem_filter.mpr ⟨List.mem_append_right _ (List.mem_of_getElem? (i := 327) (by decide +kernel)), by decide +kernel⟩
theorem wg_328 : Cond.fieldLink "BedsideNet$Display" 28 "BedsideNet$Display" "patient" "I" ∈ wsG := List.mem_filter.mpr ⟨List.mem_append_right _ (List.mem_of_getElem? (i := 328) (by decide +kernel)), by decide +kernel⟩
theorem wg_329 : Cond.fieldLink "BedsideNet$Display" 9 "BedsideNet$Display" "number" "I" ∈ wsG := List.mem_filter.mpr ⟨List.mem_append_right _ (List.mem_of_getElem? (i := 329) (by decide +kernel)), by decide +kernel⟩
theorem wg_330 : Cond.fieldLink "BedsideNet$Display" 43 "BedsideNet$Display" "value" "I" ∈ wsG := List.mem_filter.mpr ⟨List.mem_append_right _ (List.mem_of_getElem? (i := 330) (by decide +kernel)), by decide +kernel⟩
theorem wn_331 : Cond.fieldLinkNest "BedsideNet" 317 "BedsideNet$Display" "value" "I" "BedsideNet" ∈ tables_1 := List.mem_of_getElem? (i := 331) (by decide +kernel)
theorem wg_332 : Cond.fieldLink "BedsideNet$Display" 47 "BedsideNet$Display" "measuredAt" "I" ∈ wsG := List.mem_filter.mpr ⟨List.mem_append_right _ (List.mem_of_getElem? (i := 332) (by decide +kernel)), by decide +kernel⟩
theorem wn_333 : Cond.fieldLinkNest "BedsideNet" 318 "BedsideNet$Display" "measuredAt" "I" "BedsideNet" ∈ tables_1 := List.mem_of_getElem? (i := 333) (by decide +kernel)
theorem wg_334 : Cond.fieldLink "BedsideNet$Display" 16 "BedsideNet$Display" "heardAt" "I" ∈ wsG := List.mem_filter.mpr ⟨List.mem_append_right _ (List.mem_of_getElem? (i := 334) (by decide +kernel)), by decide +kernel⟩
theorem wn_335 : Cond.fieldLinkNest "BedsideNet" 314 "BedsideNet$Display" "heardAt" "I" "BedsideNet" ∈ tables_1 := List.mem_of_getElem? (i := 335) (by decide +kernel)
theorem wg_336 : Cond.lays "BedsideNet$Display" "BedsideNet$Display" "device" "I" ∈ wsG := List.mem_filter.mpr ⟨List.mem_append_right _ (List.mem_of_getElem? (i := 336) (by decide +kernel)), by decide +kernel⟩
theorem wg_338 : Cond.lays "BedsideNet$Display" "BedsideNet$Display" "channel" "I" ∈ wsG := List.mem_filter.mpr ⟨List.mem_append_right _ (List.mem_of_getElem? (i := 338) (by decide +kernel)), by decide +kernel⟩
theorem wg_340 : Cond.lays "BedsideNet$Display" "BedsideNet$Display" "life" "I" ∈ wsG := List.mem_filter.mpr ⟨List.mem_append_right _ (List.mem_of_getElem? (i := 340) (by decide +kernel)), by decide +kernel⟩
theorem wg_342 : Cond.lays "BedsideNet$Display" "BedsideNet$Display" "patient" "I" ∈ wsG := List.mem_filter.mpr ⟨List.mem_append_right _ (List.mem_of_getElem? (i := 342) (by decide +kernel)), by decide +kernel⟩
theorem wg_344 : Cond.lays "BedsideNet$Display" "BedsideNet$Display" "number" "I" ∈ wsG := List.mem_filter.mpr ⟨List.mem_append_right _ (List.mem_of_getElem? (i := 344) (by decide +kernel)), by decide +kernel⟩
theorem wg_346 : Cond.lays "BedsideNet$Display" "BedsideNet$Display" "value" "I" ∈ wsG := List.mem_filter.mpr ⟨List.mem_append_right _ (List.mem_of_getElem? (i := 346) (by decide +kernel)), by decide +kernel⟩
theorem wg_348 : Cond.lays "BedsideNet$Display" "BedsideNet$Display" "measuredAt" "I" ∈ wsG := List.mem_filter.mpr ⟨List.mem_append_right _ (List.mem_of_getElem? (i := 348) (by decide +kernel)), by decide +kernel⟩
theorem wg_350 : Cond.lays "BedsideNet$Display" "BedsideNet$Display" "heardAt" "I" ∈ wsG := List.mem_filter.mpr ⟨List.mem_append_right _ (List.mem_of_getElem? (i := 350) (by decide +kernel)), by decide +kernel⟩
theorem wg_353 : Cond.instantiable "BedsideNet$Order" 5 ∈ wsG := List.mem_filter.mpr ⟨List.mem_append_right _ (List.mem_of_getElem? (i := 353) (by decide +kernel)), by decide +kernel⟩
theorem wn_354 : Cond.methodLinkNest "BedsideNet" 47 ⟨"BedsideNet$Order", "<init>", "()V"⟩ "BedsideNet" ∈ tables_1 := List.mem_of_getElem? (i := 354) (by decide +kernel)
theorem wg_355 : Cond.instanceMethod ⟨"BedsideNet$Order", "<init>", "()V"⟩ ∈ wsG := List.mem_filter.mpr ⟨List.mem_append_right _ (List.mem_of_getElem? (i := 355) (by decide +kernel)), by decide +kernel⟩
theorem wg_356 : Cond.code ⟨"BedsideNet$Order", "<init>", "()V"⟩ prog_8_method_1_code 1 (Option.none : Option FieldType) ∈ wsG := List.mem_filter.mpr ⟨List.mem_append_right _ (List.mem_append_right _ (List.mem_append_left _ (List.mem_of_getElem? (i := 116) (by rfl)))), by rfl⟩
theorem wg_357 : Cond.methodLink "BedsideNet$Order" 3 ⟨"java/lang/Object", "<init>", "()V"⟩ ∈ wsG := List.mem_filter.mpr ⟨List.mem_append_right _ (List.mem_of_getElem? (i := 357) (by decide +kernel)), by decide +kernel⟩
theorem wg_358 : Cond.fieldLink "BedsideNet$Order" 15 "BedsideNet$Order" "controller" "I" ∈ wsG := List.mem_filter.mpr ⟨List.mem_append_right _ (List.mem_of_getElem? (i := 358) (by decide +kernel)), by decide +kernel⟩
theorem wn_359 : Cond.fieldLinkNest "BedsideNet" 290 "BedsideNet$Order" "controller" "I" "BedsideNet" ∈ tables_1 := List.mem_of_getElem? (i := 359) (by decide +kernel)
theorem wg_360 : Cond.fieldLink "BedsideNet$Order" 18 "BedsideNet$Order" "value" "I" ∈ wsG := List.mem_filter.mpr ⟨List.mem_append_right _ (List.mem_of_getElem? (i := 360) (by decide +kernel)), by decide +kernel⟩
theorem wn_361 : Cond.fieldLinkNest "BedsideNet" 285 "BedsideNet$Order" "value" "I" "BedsideNet" ∈ tables_1 := List.mem_of_getElem? (i := 361) (by decide +kernel)
theorem wg_362 : Cond.fieldLink "BedsideNet$Order" 21 "BedsideNet$Order" "expected" "I" ∈ wsG := List.mem_filter.mpr ⟨List.mem_append_right _ (List.mem_of_getElem? (i := 362) (by decide +kernel)), by decide +kernel⟩
theorem wn_363 : Cond.fieldLinkNest "BedsideNet" 297 "BedsideNet$Order" "expected" "I" "BedsideNet" ∈ tables_1 := List.mem_of_getElem? (i := 363) (by decide +kernel)
theorem wg_364 : Cond.fieldLink "BedsideNet$Order" 9 "BedsideNet$Order" "result" "I" ∈ wsG := List.mem_filter.mpr ⟨List.mem_append_right _ (List.mem_of_getElem? (i := 364) (by decide +kernel)), by decide +kernel⟩
theorem wn_365 : Cond.fieldLinkNest "BedsideNet" 278 "BedsideNet$Order" "result" "I" "BedsideNet" ∈ tables_1 := List.mem_of_getElem? (i := 365) (by decide +kernel)
theorem wn_366 : Cond.fieldLinkNest "BedsideNet" 240 "BedsideNet$Order" "known" "I" "BedsideNet" ∈ tables_1 := List.mem_of_getElem? (i := 366) (by decide +kernel)
theorem wg_367 : Cond.lays "BedsideNet$Order" "BedsideNet$Order" "controller" "I" ∈ wsG := List.mem_filter.mpr ⟨List.mem_append_right _ (List.mem_of_getElem? (i := 367) (by decide +kernel)), by decide +kernel⟩
theorem wg_369 : Cond.lays "BedsideNet$Order" "BedsideNet$Order" "value" "I" ∈ wsG := List.mem_filter.mpr ⟨List.mem_append_right _ (List.mem_of_getElem? (i := 369) (by decide +kernel)), by decide +kernel⟩
theorem wg_371 : Cond.lays "BedsideNet$Order" "BedsideNet$Order" "expected" "I" ∈ wsG := List.mem_filter.mpr ⟨List.mem_append_right _ (List.mem_of_getElem? (i := 371) (by decide +kernel)), by decide +kernel⟩
theorem wg_373 : Cond.lays "BedsideNet$Order" "BedsideNet$Order" "result" "I" ∈ wsG := List.mem_filter.mpr ⟨List.mem_append_right _ (List.mem_of_getElem? (i := 373) (by decide +kernel)), by decide +kernel⟩
theorem wg_375 : Cond.lays "BedsideNet$Order" "BedsideNet$Order" "known" "I" ∈ wsG := List.mem_filter.mpr ⟨List.mem_append_right _ (List.mem_of_getElem? (i := 375) (by decide +kernel)), by decide +kernel⟩
theorem wg_378 : Cond.fieldLink "BedsideNet" 11 "BedsideNet" "devices" "[LBedsideNet$Device;" ∈ wsG := List.mem_filter.mpr ⟨List.mem_append_right _ (List.mem_of_getElem? (i := 378) (by decide +kernel)), by decide +kernel⟩
theorem wg_379 : Cond.fieldLink "BedsideNet" 15 "BedsideNet" "patients" "[I" ∈ wsG := List.mem_filter.mpr ⟨List.mem_append_right _ (List.mem_of_getElem? (i := 379) (by decide +kernel)), by decide +kernel⟩
theorem wg_380 : Cond.fieldLink "BedsideNet" 21 "BedsideNet" "displays" "[LBedsideNet$Display;" ∈ wsG := List.mem_filter.mpr ⟨List.mem_append_right _ (List.mem_of_getElem? (i := 380) (by decide +kernel)), by decide +kernel⟩
theorem wg_381 : Cond.fieldLink "BedsideNet" 27 "BedsideNet" "orders" "[LBedsideNet$Order;" ∈ wsG := List.mem_filter.mpr ⟨List.mem_append_right _ (List.mem_of_getElem? (i := 381) (by decide +kernel)), by decide +kernel⟩
theorem wg_382 : Cond.fieldLink "BedsideNet" 34 "BedsideNet" "post" "LBedsideNet$Post;" ∈ wsG := List.mem_filter.mpr ⟨List.mem_append_right _ (List.mem_of_getElem? (i := 382) (by decide +kernel)), by decide +kernel⟩
theorem wg_383 : Cond.fieldLink "BedsideNet" 41 "BedsideNet" "inHand" "LBedsideNet$Message;" ∈ wsG := List.mem_filter.mpr ⟨List.mem_append_right _ (List.mem_of_getElem? (i := 383) (by decide +kernel)), by decide +kernel⟩
theorem wg_384 : Cond.fieldLink "BedsideNet" 247 "BedsideNet" "displayCount" "I" ∈ wsG := List.mem_filter.mpr ⟨List.mem_append_right _ (List.mem_of_getElem? (i := 384) (by decide +kernel)), by decide +kernel⟩
theorem wg_385 : Cond.fieldLink "BedsideNet" 341 "BedsideNet" "orderCount" "I" ∈ wsG := List.mem_filter.mpr ⟨List.mem_append_right _ (List.mem_of_getElem? (i := 385) (by decide +kernel)), by decide +kernel⟩
theorem wg_386 : Cond.fieldLink "BedsideNet" 138 "BedsideNet" "time" "I" ∈ wsG := List.mem_filter.mpr ⟨List.mem_append_right _ (List.mem_of_getElem? (i := 386) (by decide +kernel)), by decide +kernel⟩
theorem wg_387 : Cond.laysFinal "BedsideNet" "BedsideNet" "devices" "[LBedsideNet$Device;" ∈ wsG := List.mem_filter.mpr ⟨List.mem_append_right _ (List.mem_of_getElem? (i := 387) (by decide +kernel)), by decide +kernel⟩
theorem wg_389 : Cond.laysFinal "BedsideNet" "BedsideNet" "patients" "[I" ∈ wsG := List.mem_filter.mpr ⟨List.mem_append_right _ (List.mem_of_getElem? (i := 389) (by decide +kernel)), by decide +kernel⟩
theorem wg_391 : Cond.laysFinal "BedsideNet" "BedsideNet" "displays" "[LBedsideNet$Display;" ∈ wsG := List.mem_filter.mpr ⟨List.mem_append_right _ (List.mem_of_getElem? (i := 391) (by decide +kernel)), by decide +kernel⟩
theorem wg_393 : Cond.laysFinal "BedsideNet" "BedsideNet" "orders" "[LBedsideNet$Order;" ∈ wsG := List.mem_filter.mpr ⟨List.mem_append_right _ (List.mem_of_getElem? (i := 393) (by decide +kernel)), by decide +kernel⟩
theorem wg_395 : Cond.laysFinal "BedsideNet" "BedsideNet" "post" "LBedsideNet$Post;" ∈ wsG := List.mem_filter.mpr ⟨List.mem_append_right _ (List.mem_of_getElem? (i := 395) (by decide +kernel)), by decide +kernel⟩
theorem wg_397 : Cond.laysFinal "BedsideNet" "BedsideNet" "inHand" "LBedsideNet$Message;" ∈ wsG := List.mem_filter.mpr ⟨List.mem_append_right _ (List.mem_of_getElem? (i := 397) (by decide +kernel)), by decide +kernel⟩
theorem wg_399 : Cond.lays "BedsideNet" "BedsideNet" "displayCount" "I" ∈ wsG := List.mem_filter.mpr ⟨List.mem_append_right _ (List.mem_of_getElem? (i := 399) (by decide +kernel)), by decide +kernel⟩
theorem wg_401 : Cond.lays "BedsideNet" "BedsideNet" "orderCount" "I" ∈ wsG := List.mem_filter.mpr ⟨List.mem_append_right _ (List.mem_of_getElem? (i := 401) (by decide +kernel)), by decide +kernel⟩
theorem wg_403 : Cond.lays "BedsideNet" "BedsideNet" "time" "I" ∈ wsG := List.mem_filter.mpr ⟨List.mem_append_right _ (List.mem_of_getElem? (i := 403) (by decide +kernel)), by decide +kernel⟩
theorem wg_406 : Cond.methodLink "BedsideNetLaw" 46 ⟨"BedsideNet", "device", "(II)Z"⟩ ∈ wsG := List.mem_filter.mpr ⟨List.mem_append_right _ (List.mem_of_getElem? (i := 406) (by decide +kernel)), by decide +kernel⟩
theorem wg_407 : Cond.instanceMethod ⟨"BedsideNet", "device", "(II)Z"⟩ ∈ wsG := List.mem_filter.mpr ⟨List.mem_append_right _ (List.mem_of_getElem? (i := 407) (by decide +kernel)), by decide +kernel⟩
theorem wg_408 : Cond.selects "BedsideNet" ⟨"BedsideNet", "device", "(II)Z"⟩ ⟨"BedsideNet", "device", "(II)Z"⟩ ∈ wsG := List.mem_filter.mpr ⟨List.mem_append_right _ (List.mem_of_getElem? (i := 408) (by decide +kernel)), by decide +kernel⟩
theorem wg_409 : Cond.code ⟨"BedsideNet", "device", "(II)Z"⟩ prog_1_method_2_code 3 (Option.some FieldType.boolean) ∈ wsG := List.mem_filter.mpr ⟨List.mem_append_right _ (List.mem_append_right _ (List.mem_append_left _ (List.mem_of_getElem? (i := 169) (by rfl)))), by rfl⟩
theorem wg_410 : Cond.methodLink "BedsideNet" 48 ⟨"BedsideNet", "isDevice", "(I)Z"⟩ ∈ wsG := List.mem_filter.mpr ⟨List.mem_append_right _ (List.mem_of_getElem? (i := 410) (by decide +kernel)), by decide +kernel⟩
theorem wg_411 : Cond.static ⟨"BedsideNet", "isDevice", "(I)Z"⟩ ∈ wsG := List.mem_filter.mpr ⟨List.mem_append_right _ (List.mem_of_getElem? (i := 411) (by decide +kernel)), by decide +kernel⟩
theorem wg_412 : Cond.code ⟨"BedsideNet", "isDevice", "(I)Z"⟩ prog_1_method_40_code 1 (Option.some FieldType.boolean) ∈ wsG := List.mem_filter.mpr ⟨List.mem_append_right _ (List.mem_append_right _ (List.mem_append_left _ (List.mem_of_getElem? (i := 172) (by rfl)))), by rfl⟩
theorem wg_413 : Cond.methodLink "BedsideNet" 52 ⟨"BedsideNet", "isBed", "(I)Z"⟩ ∈ wsG := List.mem_filter.mpr ⟨List.mem_append_right _ (List.mem_of_getElem? (i := 413) (by decide +kernel)), by decide +kernel⟩
theorem wg_414 : Cond.static ⟨"BedsideNet", "isBed", "(I)Z"⟩ ∈ wsG := List.mem_filter.mpr ⟨List.mem_append_right _ (List.mem_of_getElem? (i := 414) (by decide +kernel)), by decide +kernel⟩
theorem wg_415 : Cond.code ⟨"BedsideNet", "isBed", "(I)Z"⟩ prog_1_method_41_code 1 (Option.some FieldType.boolean) ∈ wsG := List.mem_filter.mpr ⟨List.mem_append_right _ (List.mem_append_right _ (List.mem_append_left _ (List.mem_of_getElem? (i := 175) (by rfl)))), by rfl⟩
theorem wn_416 : Cond.methodLinkNest "BedsideNet" 59 ⟨"BedsideNet$Device", "begin", "(I)V"⟩ "BedsideNet" ∈ tables_1 := List.mem_of_getElem? (i := 416) (by decide +kernel)
theorem wg_418 : Cond.instanceMethod ⟨"BedsideNet$Device", "begin", "(I)V"⟩ ∈ wsG := List.mem_filter.mpr ⟨List.mem_append_right _ (List.mem_of_getElem? (i := 418) (by decide +kernel)), by decide +kernel⟩
theorem wg_419 : Cond.code ⟨"BedsideNet$Device", "begin", "(I)V"⟩ prog_4_method_2_code 2 (Option.none : Option FieldType) ∈ wsG := List.mem_filter.mpr ⟨List.mem_append_right _ (List.mem_append_right _ (List.mem_append_left _ (List.mem_of_getElem? (i := 179) (by rfl)))), by rfl⟩
theorem wg_420 : Cond.methodLink "BedsideNetLaw" 61 ⟨"BedsideNet", "alarm", "(IIIII)Z"⟩ ∈ wsG := List.mem_filter.mpr ⟨List.mem_append_right _ (List.mem_of_getElem? (i := 420) (by decide +kernel)), by decide +kernel⟩
theorem wg_421 : Cond.instanceMethod ⟨"BedsideNet", "alarm", "(IIIII)Z"⟩ ∈ wsG := List.mem_filter.mpr ⟨List.mem_append_right _ (List.mem_of_getElem? (i := 421) (by decide +kernel)), by decide +kernel⟩
theorem wg_422 : Cond.selects "BedsideNet" ⟨"BedsideNet", "alarm", "(IIIII)Z"⟩ ⟨"BedsideNet", "alarm", "(IIIII)Z"⟩ ∈ wsG := List.mem_filter.mpr ⟨List.mem_append_right _ (List.mem_of_getElem? (i := 422) (by decide +kernel)), by decide +kernel⟩
theorem wg_423 : Cond.code ⟨"BedsideNet", "alarm", "(IIIII)Z"⟩ prog_1_method_4_code 6 (Option.some FieldType.boolean) ∈ wsG := List.mem_filter.mpr ⟨List.mem_append_right _ (List.mem_append_right _ (List.mem_append_left _ (List.mem_of_getElem? (i := 183) (by rfl)))), by rfl⟩
theorem wg_424 : Cond.methodLink "BedsideNet" 63 ⟨"BedsideNet", "isOpen", "(I)Z"⟩ ∈ wsG := List.mem_filter.mpr ⟨List.mem_append_right _ (List.mem_of_getElem? (i := 424) (by decide +kernel)), by decide +kernel⟩
theorem wg_426 : Cond.instanceMethod ⟨"BedsideNet", "isOpen", "(I)Z"⟩ ∈ wsG := List.mem_filter.mpr ⟨List.mem_append_right _ (List.mem_of_getElem? (i := 426) (by decide +kernel)), by decide +kernel⟩
theorem wg_427 : Cond.code ⟨"BedsideNet", "isOpen", "(I)Z"⟩ prog_1_method_47_code 2 (Option.some FieldType.boolean) ∈ wsG := List.mem_filter.mpr ⟨List.mem_append_right _ (List.mem_append_right _ (List.mem_append_left _ (List.mem_of_getElem? (i := 187) (by rfl)))), by rfl⟩
theorem wn_428 : Cond.methodLinkNest "BedsideNet" 91 ⟨"BedsideNet$Device", "hasChannel", "(I)Z"⟩ "BedsideNet" ∈ tables_1 := List.mem_of_getElem? (i := 428) (by decide +kernel)
theorem wg_430 : Cond.instanceMethod ⟨"BedsideNet$Device", "hasChannel", "(I)Z"⟩ ∈ wsG := List.mem_filter.mpr ⟨List.mem_append_right _ (List.mem_of_getElem? (i := 430) (by decide +kernel)), by decide +kernel⟩
theorem wg_431 : Cond.code ⟨"BedsideNet$Device", "hasChannel", "(I)Z"⟩ prog_4_method_5_code 2 (Option.some FieldType.boolean) ∈ wsG := List.mem_filter.mpr ⟨List.mem_append_right _ (List.mem_append_right _ (List.mem_append_left _ (List.mem_of_getElem? (i := 191) (by rfl)))), by rfl⟩
theorem wg_432 : Cond.methodLink "BedsideNet" 94 ⟨"BedsideNet", "isNumber", "(I)Z"⟩ ∈ wsG := List.mem_filter.mpr ⟨List.mem_append_right _ (List.mem_of_getElem? (i := 432) (by decide +kernel)), by decide +kernel⟩
theorem wg_433 : Cond.static ⟨"BedsideNet", "isNumber", "(I)Z"⟩ ∈ wsG := List.mem_filter.mpr ⟨List.mem_append_right _ (List.mem_of_getElem? (i := 433) (by decide +kernel)), by decide +kernel⟩
theorem wg_434 : Cond.code ⟨"BedsideNet", "isNumber", "(I)Z"⟩ prog_1_method_44_code 1 (Option.some FieldType.boolean) ∈ wsG := List.mem_filter.mpr ⟨List.mem_append_right _ (List.mem_append_right _ (List.mem_append_left _ (List.mem_of_getElem? (i := 194) (by rfl)))), by rfl⟩
theorem wg_435 : Cond.constant "BedsideNet" 382 (-100000) ∈ wsG := List.mem_filter.mpr ⟨List.mem_append_right _ (List.mem_of_getElem? (i := 435) (by decide +kernel)), by decide +kernel⟩
theorem wg_436 : Cond.constant "BedsideNet" 383 100000 ∈ wsG := List.mem_filter.mpr ⟨List.mem_append_right _ (List.mem_of_getElem? (i := 436) (by decide +kernel)), by decide +kernel⟩
theorem wg_437 : Cond.methodLink "BedsideNet" 97 ⟨"BedsideNet", "isSpan", "(I)Z"⟩ ∈ wsG := List.mem_filter.mpr ⟨List.mem_append_right _ (List.mem_of_getElem? (i := 437) (by decide +kernel)), by decide +kernel⟩
theorem wg_438 : Cond.static ⟨"BedsideNet", "isSpan", "(I)Z"⟩ ∈ wsG := List.mem_filter.mpr ⟨List.mem_append_right _ (List.mem_of_getElem? (i := 438) (by decide +kernel)), by decide +kernel⟩
theorem wg_439 : Cond.code ⟨"BedsideNet", "isSpan", "(I)Z"⟩ prog_1_method_45_code 1 (Option.some FieldType.boolean) ∈ wsG := List.mem_filter.mpr ⟨List.mem_append_right _ (List.mem_append_right _ (List.mem_append_left _ (List.mem_of_getElem? (i := 199) (by rfl)))), by rfl⟩
theorem wn_440 : Cond.methodLinkNest "BedsideNet" 104 ⟨"BedsideNet$Alarm", "describe", "(III)V"⟩ "BedsideNet" ∈ tables_1 := List.mem_of_getElem? (i := 440) (by decide +kernel)
theorem wg_442 : Cond.instanceMethod ⟨"BedsideNet$Alarm", "describe", "(III)V"⟩ ∈ wsG := List.mem_filter.mpr ⟨List.mem_append_right _ (List.mem_of_getElem? (i := 442) (by decide +kernel)), by decide +kernel⟩
theorem wg_443 : Cond.code ⟨"BedsideNet$Alarm", "describe", "(III)V"⟩ prog_2_method_2_code 4 (Option.none : Option FieldType) ∈ wsG := List.mem_filter.mpr ⟨List.mem_append_right _ (List.mem_append_right _ (List.mem_append_left _ (List.mem_of_getElem? (i := 203) (by rfl)))), by rfl⟩
theorem wg_444 : Cond.methodLink "BedsideNetLaw" 66 ⟨"BedsideNet", "setPoint", "(IIII)Z"⟩ ∈ wsG := List.mem_filter.mpr ⟨List.mem_append_right _ (List.mem_of_getElem? (i := 444) (by decide +kernel)), by decide +kernel⟩
theorem wg_445 : Cond.instanceMethod ⟨"BedsideNet", "setPoint", "(IIII)Z"⟩ ∈ wsG := List.mem_filter.mpr ⟨List.mem_append_right _ (List.mem_of_getElem? (i := 445) (by decide +kernel)), by decide +kernel⟩
theorem wg_446 : Cond.selects "BedsideNet" ⟨"BedsideNet", "setPoint", "(IIII)Z"⟩ ⟨"BedsideNet", "setPoint", "(IIII)Z"⟩ ∈ wsG := List.mem_filter.mpr ⟨List.mem_append_right _ (List.mem_of_getElem? (i := 446) (by decide +kernel)), by decide +kernel⟩
theorem wg_447 : Cond.code ⟨"BedsideNet", "setPoint", "(IIII)Z"⟩ prog_1_method_5_code 5 (Option.some FieldType.boolean) ∈ wsG := List.mem_filter.mpr ⟨List.mem_append_right _ (List.mem_append_right _ (List.mem_append_left _ (List.mem_of_getElem? (i := 207) (by rfl)))), by rfl⟩
theorem wg_448 : Cond.methodLink "BedsideNet" 69 ⟨"BedsideNet", "isRange", "(III)Z"⟩ ∈ wsG := List.mem_filter.mpr ⟨List.mem_append_right _ (List.mem_of_getElem? (i := 448) (by decide +kernel)), by decide +kernel⟩
theorem wg_449 : Cond.static ⟨"BedsideNet", "isRange", "(III)Z"⟩ ∈ wsG := List.mem_filter.mpr ⟨List.mem_append_right _ (List.mem_of_getElem? (i := 449) (by decide +kernel)), by decide +kernel⟩
theorem wg_450 : Cond.code ⟨"BedsideNet", "isRange", "(III)Z"⟩ prog_1_method_46_code 3 (Option.some FieldType.boolean) ∈ wsG := List.mem_filter.mpr ⟨List.mem_append_right _ (List.mem_append_right _ (List.mem_append_left _ (List.mem_of_getElem? (i := 210) (by rfl)))), by rfl⟩
theorem wn_451 : Cond.methodLinkNest "BedsideNet" 114 ⟨"BedsideNet$Setting", "describe", "(III)V"⟩ "BedsideNet" ∈ tables_1 := List.mem_of_getElem? (i := 451) (by decide +kernel)
theorem wg_453 : Cond.instanceMethod ⟨"BedsideNet$Setting", "describe", "(III)V"⟩ ∈ wsG := List.mem_filter.mpr ⟨List.mem_append_right _ (List.mem_of_getElem? (i := 453) (by decide +kernel)), by decide +kernel⟩
theorem wg_454 : Cond.code ⟨"BedsideNet$Setting", "describe", "(III)V"⟩ prog_11_method_2_code 4 (Option.none : Option FieldType) ∈ wsG := List.mem_filter.mpr ⟨List.mem_append_right _ (List.mem_append_right _ (List.mem_append_left _ (List.mem_of_getElem? (i := 214) (by rfl)))), by rfl⟩
theorem wn_455 : Cond.methodLinkNest "BedsideNet$Setting" 30 ⟨"BedsideNet$Range", "set", "(III)V"⟩ "BedsideNet" ∈ tables_1 := List.mem_of_getElem? (i := 455) (by decide +kernel)
theorem wg_457 : Cond.instanceMethod ⟨"BedsideNet$Range", "set", "(III)V"⟩ ∈ wsG := List.mem_filter.mpr ⟨List.mem_append_right _ (List.mem_of_getElem? (i := 457) (by decide +kernel)), by decide +kernel⟩
theorem wg_458 : Cond.code ⟨"BedsideNet$Range", "set", "(III)V"⟩ prog_10_method_2_code 4 (Option.none : Option FieldType) ∈ wsG := List.mem_filter.mpr ⟨List.mem_append_right _ (List.mem_append_right _ (List.mem_append_left _ (List.mem_of_getElem? (i := 218) (by rfl)))), by rfl⟩
theorem wg_459 : Cond.methodLink "BedsideNetLaw" 71 ⟨"BedsideNet", "seal", "(I)Z"⟩ ∈ wsG := List.mem_filter.mpr ⟨List.mem_append_right _ (List.mem_of_getElem? (i := 459) (by decide +kernel)), by decide +kernel⟩
theorem wg_460 : Cond.instanceMethod ⟨"BedsideNet", "seal", "(I)Z"⟩ ∈ wsG := List.mem_filter.mpr ⟨List.mem_append_right _ (List.mem_of_getElem? (i := 460) (by decide +kernel)), by decide +kernel⟩
theorem wg_461 : Cond.selects "BedsideNet" ⟨"BedsideNet", "seal", "(I)Z"⟩ ⟨"BedsideNet", "seal", "(I)Z"⟩ ∈ wsG := List.mem_filter.mpr ⟨List.mem_append_right _ (List.mem_of_getElem? (i := 461) (by decide +kernel)), by decide +kernel⟩
theorem wg_462 : Cond.code ⟨"BedsideNet", "seal", "(I)Z"⟩ prog_1_method_6_code 2 (Option.some FieldType.boolean) ∈ wsG := List.mem_filter.mpr ⟨List.mem_append_right _ (List.mem_append_right _ (List.mem_append_left _ (List.mem_of_getElem? (i := 222) (by rfl)))), by rfl⟩
theorem wg_463 : Cond.methodLink "BedsideNetLaw" 76 ⟨"BedsideNet", "move", "(II)Z"⟩ ∈ wsG := List.mem_filter.mpr ⟨List.mem_append_right _ (List.mem_of_getElem? (i := 463) (by decide +kernel)), by decide +kernel⟩
theorem wg_464 : Cond.instanceMethod ⟨"BedsideNet", "move", "(II)Z"⟩ ∈ wsG := List.mem_filter.mpr ⟨List.mem_append_right _ (List.mem_of_getElem? (i := 464) (by decide +kernel)), by decide +kernel⟩
theorem wg_465 : Cond.selects "BedsideNet" ⟨"BedsideNet", "move", "(II)Z"⟩ ⟨"BedsideNet", "move", "(II)Z"⟩ ∈ wsG := List.mem_filter.mpr ⟨List.mem_append_right _ (List.mem_of_getElem? (i := 465) (by decide +kernel)), by decide +kernel⟩
theorem wg_466 : Cond.code ⟨"BedsideNet", "move", "(II)Z"⟩ prog_1_method_7_code 3 (Option.some FieldType.boolean) ∈ wsG := List.mem_filter.mpr ⟨List.mem_append_right _ (List.mem_append_right _ (List.mem_append_left _ (List.mem_of_getElem? (i := 226) (by rfl)))), by rfl⟩
theorem wg_467 : Cond.methodLink "BedsideNet" 117 ⟨"BedsideNet", "isSealed", "(I)Z"⟩ ∈ wsG := List.mem_filter.mpr ⟨List.mem_append_right _ (List.mem_of_getElem? (i := 467) (by decide +kernel)), by decide +kernel⟩
theorem wg_469 : Cond.instanceMethod ⟨"BedsideNet", "isSealed", "(I)Z"⟩ ∈ wsG := List.mem_filter.mpr ⟨List.mem_append_right _ (List.mem_of_getElem? (i := 469) (by decide +kernel)), by decide +kernel⟩
theorem wg_470 : Cond.code ⟨"BedsideNet", "isSealed", "(I)Z"⟩ prog_1_method_48_code 2 (Option.some FieldType.boolean) ∈ wsG := List.mem_filter.mpr ⟨List.mem_append_right _ (List.mem_append_right _ (List.mem_append_left _ (List.mem_of_getElem? (i := 230) (by rfl)))), by rfl⟩
theorem wg_471 : Cond.methodLink "BedsideNetLaw" 80 ⟨"BedsideNet", "patient", "(II)Z"⟩ ∈ wsG := List.mem_filter.mpr ⟨List.mem_append_right _ (List.mem_of_getElem? (i := 471) (by decide +kernel)), by decide +kernel⟩
theorem wg_472 : Cond.instanceMethod ⟨"BedsideNet", "patient", "(II)Z"⟩ ∈ wsG := List.mem_filter.mpr ⟨List.mem_append_right _ (List.mem_of_getElem? (i := 472) (by decide +kernel)), by decide +kernel⟩
theorem wg_473 : Cond.selects "BedsideNet" ⟨"BedsideNet", "patient", "(II)Z"⟩ ⟨"BedsideNet", "patient", "(II)Z"⟩ ∈ wsG := List.mem_filter.mpr ⟨List.mem_append_right _ (List.mem_of_getElem? (i := 473) (by decide +kernel)), by decide +kernel⟩
theorem wg_474 : Cond.code ⟨"BedsideNet", "patient", "(II)Z"⟩ prog_1_method_8_code 4 (Option.some FieldType.boolean) ∈ wsG := List.mem_filter.mpr ⟨List.mem_append_right _ (List.mem_append_right _ (List.mem_append_left _ (List.mem_of_getElem? (i := 234) (by rfl)))), by rfl⟩
theorem wg_475 : Cond.methodLink "BedsideNetLaw" 84 ⟨"BedsideNet", "confirm", "(I)Z"⟩ ∈ wsG := List.mem_filter.mpr ⟨List.mem_append_right _ (List.mem_of_getElem? (i := 475) (by decide +kernel)), by decide +kernel⟩
theorem wg_476 : Cond.instanceMethod ⟨"BedsideNet", "confirm", "(I)Z"⟩ ∈ wsG := List.mem_filter.mpr ⟨List.mem_append_right _ (List.mem_of_getElem? (i := 476) (by decide +kernel)), by decide +kernel⟩
theorem wg_477 : Cond.selects "BedsideNet" ⟨"BedsideNet", "confirm", "(I)Z"⟩ ⟨"BedsideNet", "confirm", "(I)Z"⟩ ∈ wsG := List.mem_filter.mpr ⟨List.mem_append_right _ (List.mem_of_getElem? (i := 477) (by decide +kernel)), by decide +kernel⟩
theorem wg_478 : Cond.code ⟨"BedsideNet", "confirm", "(I)Z"⟩ prog_1_method_9_code 4 (Option.some FieldType.boolean) ∈ wsG := List.mem_filter.mpr ⟨List.mem_append_right _ (List.mem_append_right _ (List.mem_append_left _ (List.mem_of_getElem? (i := 238) (by rfl)))), by rfl⟩
theorem wn_479 : Cond.methodLinkNest "BedsideNet" 126 ⟨"BedsideNet$Device", "tie", "(I)V"⟩ "BedsideNet" ∈ tables_1 := List.mem_of_getElem? (i := 479) (by decide +kernel)
theorem wg_481 : Cond.instanceMethod ⟨"BedsideNet$Device", "tie", "(I)V"⟩ ∈ wsG := List.mem_filter.mpr ⟨List.mem_append_right _ (List.mem_of_getElem? (i := 481) (by decide +kernel)), by decide +kernel⟩
theorem wg_482 : Cond.code ⟨"BedsideNet$Device", "tie", "(I)V"⟩ prog_4_method_4_code 3 (Option.none : Option FieldType) ∈ wsG := List.mem_filter.mpr ⟨List.mem_append_right _ (List.mem_append_right _ (List.mem_append_right _ (List.mem_append_left _ (List.mem_of_getElem? (i := 2) (by rfl))))), by rfl⟩
theorem wg_483 : Cond.methodLink "BedsideNetLaw" 88 ⟨"BedsideNet", "sample", "(III)Z"⟩ ∈ wsG := List.mem_filter.mpr ⟨List.mem_append_right _ (List.mem_of_getElem? (i := 483) (by decide +kernel)), by decide +kernel⟩
theorem wg_484 : Cond.instanceMethod ⟨"BedsideNet", "sample", "(III)Z"⟩ ∈ wsG := List.mem_filter.mpr ⟨List.mem_append_right _ (List.mem_of_getElem? (i := 484) (by decide +kernel)), by decide +kernel⟩
theorem wg_485 : Cond.selects "BedsideNet" ⟨"BedsideNet", "sample", "(III)Z"⟩ ⟨"BedsideNet", "sample", "(III)Z"⟩ ∈ wsG := List.mem_filter.mpr ⟨List.mem_append_right _ (List.mem_of_getElem? (i := 485) (by decide +kernel)), by decide +kernel⟩
theorem wg_486 : Cond.code ⟨"BedsideNet", "sample", "(III)Z"⟩ prog_1_method_10_code 5 (Option.some FieldType.boolean) ∈ wsG := List.mem_filter.mpr ⟨List.mem_append_right _ (List.mem_append_right _ (List.mem_append_right _ (List.mem_append_left _ (List.mem_of_getElem? (i := 6) (by rfl))))), by rfl⟩
theorem wn_487 : Cond.methodLinkNest "BedsideNet" 133 ⟨"BedsideNet$Range", "fits", "(I)Z"⟩ "BedsideNet" ∈ tables_1 := List.mem_of_getElem? (i := 487) (by decide +kernel)
theorem wg_489 : Cond.instanceMethod ⟨"BedsideNet$Range", "fits", "(I)Z"⟩ ∈ wsG := List.mem_filter.mpr ⟨List.mem_append_right _ (List.mem_of_getElem? (i := 489) (by decide +kernel)), by decide +kernel⟩
theorem wg_490 : Cond.code ⟨"BedsideNet$Range", "fits", "(I)Z"⟩ prog_10_method_3_code 2 (Option.some FieldType.boolean) ∈ wsG := List.mem_filter.mpr ⟨List.mem_append_right _ (List.mem_append_right _ (List.mem_append_right _ (List.mem_append_left _ (List.mem_of_getElem? (i := 10) (by rfl))))), by rfl⟩
theorem wn_491 : Cond.methodLinkNest "BedsideNet" 141 ⟨"BedsideNet$Channel", "measure", "(II)V"⟩ "BedsideNet" ∈ tables_1 := List.mem_of_getElem? (i := 491) (by decide +kernel)
theorem wg_493 : Cond.instanceMethod ⟨"BedsideNet$Channel", "measure", "(II)V"⟩ ∈ wsG := List.mem_filter.mpr ⟨List.mem_append_right _ (List.mem_of_getElem? (i := 493) (by decide +kernel)), by decide +kernel⟩
theorem wg_494 : Cond.code ⟨"BedsideNet$Channel", "measure", "(II)V"⟩ prog_3_method_3_code 3 (Option.none : Option FieldType) ∈ wsG := List.mem_filter.mpr ⟨List.mem_append_right _ (List.mem_append_right _ (List.mem_append_right _ (List.mem_append_left _ (List.mem_of_getElem? (i := 14) (by rfl))))), by rfl⟩
theorem wn_495 : Cond.methodLinkNest "BedsideNet$Channel" 60 ⟨"BedsideNet$Alarm", "watch", "(II)V"⟩ "BedsideNet" ∈ tables_1 := List.mem_of_getElem? (i := 495) (by decide +kernel)
theorem wg_497 : Cond.instanceMethod ⟨"BedsideNet$Alarm", "watch", "(II)V"⟩ ∈ wsG := List.mem_filter.mpr ⟨List.mem_append_right _ (List.mem_of_getElem? (i := 497) (by decide +kernel)), by decide +kernel⟩
theorem wg_498 : Cond.code ⟨"BedsideNet$Alarm", "watch", "(II)V"⟩ prog_2_method_3_code 4 (Option.none : Option FieldType) ∈ wsG := List.mem_filter.mpr ⟨List.mem_append_right _ (List.mem_append_right _ (List.mem_append_right _ (List.mem_append_left _ (List.mem_of_getElem? (i := 18) (by rfl))))), by rfl⟩
theorem wg_499 : Cond.methodLink "BedsideNet" 145 ⟨"BedsideNet", "sendValue", "(II)V"⟩ ∈ wsG := List.mem_filter.mpr ⟨List.mem_append_right _ (List.mem_of_getElem? (i := 499) (by decide +kernel)), by decide +kernel⟩
theorem wg_501 : Cond.instanceMethod ⟨"BedsideNet", "sendValue", "(II)V"⟩ ∈ wsG := List.mem_filter.mpr ⟨List.mem_append_right _ (List.mem_of_getElem? (i := 501) (by decide +kernel)), by decide +kernel⟩
theorem wg_502 : Cond.code ⟨"BedsideNet", "sendValue", "(II)V"⟩ prog_1_method_19_code 5 (Option.none : Option FieldType) ∈ wsG := List.mem_filter.mpr ⟨List.mem_append_right _ (List.mem_append_right _ (List.mem_append_right _ (List.mem_append_left _ (List.mem_of_getElem? (i := 22) (by rfl))))), by rfl⟩
theorem wn_503 : Cond.methodLinkNest "BedsideNet" 217 ⟨"BedsideNet$Post", "send", "(IIIIIII)V"⟩ "BedsideNet" ∈ tables_1 := List.mem_of_getElem? (i := 503) (by decide +kernel)
theorem wg_505 : Cond.instanceMethod ⟨"BedsideNet$Post", "send", "(IIIIIII)V"⟩ ∈ wsG := List.mem_filter.mpr ⟨List.mem_append_right _ (List.mem_of_getElem? (i := 505) (by decide +kernel)), by decide +kernel⟩
theorem wg_506 : Cond.code ⟨"BedsideNet$Post", "send", "(IIIIIII)V"⟩ prog_9_method_2_code 9 (Option.none : Option FieldType) ∈ wsG := List.mem_filter.mpr ⟨List.mem_append_right _ (List.mem_append_right _ (List.mem_append_right _ (List.mem_append_left _ (List.mem_of_getElem? (i := 26) (by rfl))))), by rfl⟩
theorem wg_507 : Cond.methodLink "BedsideNet" 148 ⟨"BedsideNet", "settleAlarms", "()V"⟩ ∈ wsG := List.mem_filter.mpr ⟨List.mem_append_right _ (List.mem_of_getElem? (i := 507) (by decide +kernel)), by decide +kernel⟩
theorem wg_509 : Cond.instanceMethod ⟨"BedsideNet", "settleAlarms", "()V"⟩ ∈ wsG := List.mem_filter.mpr ⟨List.mem_append_right _ (List.mem_of_getElem? (i := 509) (by decide +kernel)), by decide +kernel⟩
theorem wg_510 : Cond.code ⟨"BedsideNet", "settleAlarms", "()V"⟩ prog_1_method_13_code 4 (Option.none : Option FieldType) ∈ wsG := List.mem_filter.mpr ⟨List.mem_append_right _ (List.mem_append_right _ (List.mem_append_right _ (List.mem_append_left _ (List.mem_of_getElem? (i := 30) (by rfl))))), by rfl⟩
theorem wn_511 : Cond.methodLinkNest "BedsideNet" 168 ⟨"BedsideNet$Alarm", "settle", "(I)Z"⟩ "BedsideNet" ∈ tables_1 := List.mem_of_getElem? (i := 511) (by decide +kernel)
theorem wg_513 : Cond.instanceMethod ⟨"BedsideNet$Alarm", "settle", "(I)Z"⟩ ∈ wsG := List.mem_filter.mpr ⟨List.mem_append_right _ (List.mem_of_getElem? (i := 513) (by decide +kernel)), by decide +kernel⟩
theorem wg_514 : Cond.code ⟨"BedsideNet$Alarm", "settle", "(I)Z"⟩ prog_2_method_5_code 3 (Option.some FieldType.boolean) ∈ wsG := List.mem_filter.mpr ⟨List.mem_append_right _ (List.mem_append_right _ (List.mem_append_right _ (List.mem_append_left _ (List.mem_of_getElem? (i := 34) (by rfl))))), by rfl⟩
theorem wg_515 : Cond.methodLink "BedsideNet$Alarm" 40 ⟨"java/lang/Math", "max", "(II)I"⟩ ∈ wsG := List.mem_filter.mpr ⟨List.mem_append_right _ (List.mem_of_getElem? (i := 515) (by decide +kernel)), by decide +kernel⟩
theorem wg_516 : Cond.static ⟨"java/lang/Math", "max", "(II)I"⟩ ∈ wsG := List.mem_filter.mpr ⟨List.mem_append_right _ (List.mem_of_getElem? (i := 516) (by decide +kernel)), by decide +kernel⟩
theorem wg_517 : Cond.code ⟨"java/lang/Math", "max", "(II)I"⟩ prog_18_method_65_code 2 (Option.some FieldType.int) ∈ wsG := List.mem_filter.mpr ⟨List.mem_append_right _ (List.mem_append_right _ (List.mem_append_right _ (List.mem_append_left _ (List.mem_of_getElem? (i := 37) (by rfl))))), by rfl⟩
theorem wg_518 : Cond.methodLink "BedsideNet" 174 ⟨"BedsideNet", "send", "(IIII)V"⟩ ∈ wsG := List.mem_filter.mpr ⟨List.mem_append_right _ (List.mem_of_getElem? (i := 518) (by decide +kernel)), by decide +kernel⟩
theorem wg_520 : Cond.instanceMethod ⟨"BedsideNet", "send", "(IIII)V"⟩ ∈ wsG := List.mem_filter.mpr ⟨List.mem_append_right _ (List.mem_of_getElem? (i := 520) (by decide +kernel)), by decide +kernel⟩
theorem wg_521 : Cond.code ⟨"BedsideNet", "send", "(IIII)V"⟩ prog_1_method_18_code 5 (Option.none : Option FieldType) ∈ wsG := List.mem_filter.mpr ⟨List.mem_append_right _ (List.mem_append_right _ (List.mem_append_right _ (List.mem_append_left _ (List.mem_of_getElem? (i := 41) (by rfl))))), by rfl⟩
theorem wg_522 : Cond.methodLink "BedsideNetLaw" 97 ⟨"BedsideNet", "carry", "(IZ)Z"⟩ ∈ wsG := List.mem_filter.mpr ⟨List.mem_append_right _ (List.mem_of_getElem? (i := 522) (by decide +kernel)), by decide +kernel⟩
theorem wg_523 : Cond.instanceMethod ⟨"BedsideNet", "carry", "(IZ)Z"⟩ ∈ wsG := List.mem_filter.mpr ⟨List.mem_append_right _ (List.mem_of_getElem? (i := 523) (by decide +kernel)), by decide +kernel⟩
theorem wg_524 : Cond.selects "BedsideNet" ⟨"BedsideNet", "carry", "(IZ)Z"⟩ ⟨"BedsideNet", "carry", "(IZ)Z"⟩ ∈ wsG := List.mem_filter.mpr ⟨List.mem_append_right _ (List.mem_of_getElem? (i := 524) (by decide +kernel)), by decide +kernel⟩
theorem wg_525 : Cond.code ⟨"BedsideNet", "carry", "(IZ)Z"⟩ prog_1_method_15_code 4 (Option.some FieldType.boolean) ∈ wsG := List.mem_filter.mpr ⟨List.mem_append_right _ (List.mem_append_right _ (List.mem_append_right _ (List.mem_append_left _ (List.mem_of_getElem? (i := 45) (by rfl))))), by rfl⟩
theorem wn_526 : Cond.methodLinkNest "BedsideNet" 187 ⟨"BedsideNet$Post", "indexOf", "(I)I"⟩ "BedsideNet" ∈ tables_1 := List.mem_of_getElem? (i := 526) (by decide +kernel)
theorem wg_528 : Cond.instanceMethod ⟨"BedsideNet$Post", "indexOf", "(I)I"⟩ ∈ wsG := List.mem_filter.mpr ⟨List.mem_append_right _ (List.mem_of_getElem? (i := 528) (by decide +kernel)), by decide +kernel⟩
theorem wg_529 : Cond.code ⟨"BedsideNet$Post", "indexOf", "(I)I"⟩ prog_9_method_3_code 3 (Option.some FieldType.int) ∈ wsG := List.mem_filter.mpr ⟨List.mem_append_right _ (List.mem_append_right _ (List.mem_append_right _ (List.mem_append_left _ (List.mem_of_getElem? (i := 49) (by rfl))))), by rfl⟩
theorem wn_530 : Cond.methodLinkNest "BedsideNet" 195 ⟨"BedsideNet$Message", "copy", "(LBedsideNet$Message;)V"⟩ "BedsideNet" ∈ tables_1 := List.mem_of_getElem? (i := 530) (by decide +kernel)
theorem wg_532 : Cond.instanceMethod ⟨"BedsideNet$Message", "copy", "(LBedsideNet$Message;)V"⟩ ∈ wsG := List.mem_filter.mpr ⟨List.mem_append_right _ (List.mem_of_getElem? (i := 532) (by decide +kernel)), by decide +kernel⟩
theorem wg_533 : Cond.code ⟨"BedsideNet$Message", "copy", "(LBedsideNet$Message;)V"⟩ prog_7_method_2_code 2 (Option.none : Option FieldType) ∈ wsG := List.mem_filter.mpr ⟨List.mem_append_right _ (List.mem_append_right _ (List.mem_append_right _ (List.mem_append_left _ (List.mem_of_getElem? (i := 53) (by rfl))))), by rfl⟩
theorem wn_534 : Cond.methodLinkNest "BedsideNet" 199 ⟨"BedsideNet$Post", "remove", "(I)V"⟩ "BedsideNet" ∈ tables_1 := List.mem_of_getElem? (i := 534) (by decide +kernel)
theorem wg_536 : Cond.instanceMethod ⟨"BedsideNet$Post", "remove", "(I)V"⟩ ∈ wsG := List.mem_filter.mpr ⟨List.mem_append_right _ (List.mem_of_getElem? (i := 536) (by decide +kernel)), by decide +kernel⟩
theorem wg_537 : Cond.code ⟨"BedsideNet$Post", "remove", "(I)V"⟩ prog_9_method_4_code 4 (Option.none : Option FieldType) ∈ wsG := List.mem_filter.mpr ⟨List.mem_append_right _ (List.mem_append_right _ (List.mem_append_right _ (List.mem_append_left _ (List.mem_of_getElem? (i := 57) (by rfl))))), by rfl⟩
theorem wg_538 : Cond.methodLink "BedsideNet" 202 ⟨"BedsideNet", "deliver", "()V"⟩ ∈ wsG := List.mem_filter.mpr ⟨List.mem_append_right _ (List.mem_of_getElem? (i := 538) (by decide +kernel)), by decide +kernel⟩
theorem wg_540 : Cond.instanceMethod ⟨"BedsideNet", "deliver", "()V"⟩ ∈ wsG := List.mem_filter.mpr ⟨List.mem_append_right _ (List.mem_of_getElem? (i := 540) (by decide +kernel)), by decide +kernel⟩
theorem wg_541 : Cond.code ⟨"BedsideNet", "deliver", "()V"⟩ prog_1_method_21_code 2 (Option.none : Option FieldType) ∈ wsG := List.mem_filter.mpr ⟨List.mem_append_right _ (List.mem_append_right _ (List.mem_append_right _ (List.mem_append_left _ (List.mem_of_getElem? (i := 61) (by rfl))))), by rfl⟩
theorem wg_542 : Cond.methodLink "BedsideNet" 232 ⟨"BedsideNet", "takeOrder", "(LBedsideNet$Device;)V"⟩ ∈ wsG := List.mem_filter.mpr ⟨List.mem_append_right _ (List.mem_of_getElem? (i := 542) (by decide +kernel)), by decide +kernel⟩
theorem wg_544 : Cond.instanceMethod ⟨"BedsideNet", "takeOrder", "(LBedsideNet$Device;)V"⟩ ∈ wsG := List.mem_filter.mpr ⟨List.mem_append_right _ (List.mem_of_getElem? (i := 544) (by decide +kernel)), by decide +kernel⟩
theorem wg_545 : Cond.code ⟨"BedsideNet", "takeOrder", "(LBedsideNet$Device;)V"⟩ prog_1_method_24_code 3 (Option.none : Option FieldType) ∈ wsG := List.mem_filter.mpr ⟨List.mem_append_right _ (List.mem_append_right _ (List.mem_append_right _ (List.mem_append_left _ (List.mem_of_getElem? (i := 65) (by rfl))))), by rfl⟩
theorem wg_546 : Cond.methodLink "BedsideNet" 281 ⟨"BedsideNet", "judge", "(LBedsideNet$Order;LBedsideNet$Device;)I"⟩ ∈ wsG := List.mem_filter.mpr ⟨List.mem_append_right _ (List.mem_of_getElem? (i := 546) (by decide +kernel)), by decide +kernel⟩
theorem wg_548 : Cond.instanceMethod ⟨"BedsideNet", "judge", "(LBedsideNet$Order;LBedsideNet$Device;)I"⟩ ∈ wsG := List.mem_filter.mpr ⟨List.mem_append_right _ (List.mem_of_getElem? (i := 548) (by decide +kernel)), by decide +kernel⟩
theorem wg_549 : Cond.code ⟨"BedsideNet", "judge", "(LBedsideNet$Order;LBedsideNet$Device;)I"⟩ prog_1_method_25_code 3 (Option.some FieldType.int) ∈ wsG := List.mem_filter.mpr ⟨List.mem_append_right _ (List.mem_append_right _ (List.mem_append_right _ (List.mem_append_left _ (List.mem_of_getElem? (i := 69) (by rfl))))), by rfl⟩
theorem wn_550 : Cond.methodLinkNest "BedsideNet" 287 ⟨"BedsideNet$Setting", "holderAt", "(I)I"⟩ "BedsideNet" ∈ tables_1 := List.mem_of_getElem? (i := 550) (by decide +kernel)
theorem wg_552 : Cond.instanceMethod ⟨"BedsideNet$Setting", "holderAt", "(I)I"⟩ ∈ wsG := List.mem_filter.mpr ⟨List.mem_append_right _ (List.mem_of_getElem? (i := 552) (by decide +kernel)), by decide +kernel⟩
theorem wg_553 : Cond.code ⟨"BedsideNet$Setting", "holderAt", "(I)I"⟩ prog_11_method_3_code 2 (Option.some FieldType.int) ∈ wsG := List.mem_filter.mpr ⟨List.mem_append_right _ (List.mem_append_right _ (List.mem_append_right _ (List.mem_append_left _ (List.mem_of_getElem? (i := 73) (by rfl))))), by rfl⟩
theorem wg_554 : Cond.methodLink "BedsideNet" 244 ⟨"BedsideNet", "deliverWithinLife", "(LBedsideNet$Device;)V"⟩ ∈ wsG := List.mem_filter.mpr ⟨List.mem_append_right _ (List.mem_of_getElem? (i := 554) (by decide +kernel)), by decide +kernel⟩
theorem wg_556 : Cond.instanceMethod ⟨"BedsideNet", "deliverWithinLife", "(LBedsideNet$Device;)V"⟩ ∈ wsG := List.mem_filter.mpr ⟨List.mem_append_right _ (List.mem_of_getElem? (i := 556) (by decide +kernel)), by decide +kernel⟩
theorem wg_557 : Cond.code ⟨"BedsideNet", "deliverWithinLife", "(LBedsideNet$Device;)V"⟩ prog_1_method_22_code 3 (Option.none : Option FieldType) ∈ wsG := List.mem_filter.mpr ⟨List.mem_append_right _ (List.mem_append_right _ (List.mem_append_right _ (List.mem_append_left _ (List.mem_of_getElem? (i := 77) (by rfl))))), by rfl⟩
theorem wn_558 : Cond.methodLinkNest "BedsideNet" 250 ⟨"BedsideNet$Display", "hear", "(LBedsideNet$Message;I)V"⟩ "BedsideNet" ∈ tables_1 := List.mem_of_getElem? (i := 558) (by decide +kernel)
theorem wg_560 : Cond.instanceMethod ⟨"BedsideNet$Display", "hear", "(LBedsideNet$Message;I)V"⟩ ∈ wsG := List.mem_filter.mpr ⟨List.mem_append_right _ (List.mem_of_getElem? (i := 560) (by decide +kernel)), by decide +kernel⟩
theorem wg_561 : Cond.code ⟨"BedsideNet$Display", "hear", "(LBedsideNet$Message;I)V"⟩ prog_5_method_3_code 4 (Option.none : Option FieldType) ∈ wsG := List.mem_filter.mpr ⟨List.mem_append_right _ (List.mem_append_right _ (List.mem_append_right _ (List.mem_append_left _ (List.mem_of_getElem? (i := 81) (by rfl))))), by rfl⟩
theorem wg_562 : Cond.methodLink "BedsideNet" 257 ⟨"BedsideNet", "learnAlarm", "(LBedsideNet$Known;)V"⟩ ∈ wsG := List.mem_filter.mpr ⟨List.mem_append_right _ (List.mem_of_getElem? (i := 562) (by decide +kernel)), by decide +kernel⟩
theorem wg_564 : Cond.instanceMethod ⟨"BedsideNet", "learnAlarm", "(LBedsideNet$Known;)V"⟩ ∈ wsG := List.mem_filter.mpr ⟨List.mem_append_right _ (List.mem_of_getElem? (i := 564) (by decide +kernel)), by decide +kernel⟩
theorem wg_565 : Cond.code ⟨"BedsideNet", "learnAlarm", "(LBedsideNet$Known;)V"⟩ prog_1_method_23_code 2 (Option.none : Option FieldType) ∈ wsG := List.mem_filter.mpr ⟨List.mem_append_right _ (List.mem_append_right _ (List.mem_append_right _ (List.mem_append_left _ (List.mem_of_getElem? (i := 85) (by rfl))))), by rfl⟩
theorem wn_566 : Cond.methodLinkNest "BedsideNet" 273 ⟨"BedsideNet$Known", "learn", "(IZ)V"⟩ "BedsideNet" ∈ tables_1 := List.mem_of_getElem? (i := 566) (by decide +kernel)
theorem wg_568 : Cond.instanceMethod ⟨"BedsideNet$Known", "learn", "(IZ)V"⟩ ∈ wsG := List.mem_filter.mpr ⟨List.mem_append_right _ (List.mem_of_getElem? (i := 568) (by decide +kernel)), by decide +kernel⟩
theorem wg_569 : Cond.code ⟨"BedsideNet$Known", "learn", "(IZ)V"⟩ prog_6_method_2_code 3 (Option.none : Option FieldType) ∈ wsG := List.mem_filter.mpr ⟨List.mem_append_right _ (List.mem_append_right _ (List.mem_append_right _ (List.mem_append_left _ (List.mem_of_getElem? (i := 89) (by rfl))))), by rfl⟩
theorem wg_570 : Cond.methodLink "BedsideNet" 184 ⟨"BedsideNet", "sendSounds", "(I)V"⟩ ∈ wsG := List.mem_filter.mpr ⟨List.mem_append_right _ (List.mem_of_getElem? (i := 570) (by decide +kernel)), by decide +kernel⟩
theorem wg_572 : Cond.instanceMethod ⟨"BedsideNet", "sendSounds", "(I)V"⟩ ∈ wsG := List.mem_filter.mpr ⟨List.mem_append_right _ (List.mem_of_getElem? (i := 572) (by decide +kernel)), by decide +kernel⟩
theorem wg_573 : Cond.code ⟨"BedsideNet", "sendSounds", "(I)V"⟩ prog_1_method_20_code 2 (Option.none : Option FieldType) ∈ wsG := List.mem_filter.mpr ⟨List.mem_append_right _ (List.mem_append_right _ (List.mem_append_right _ (List.mem_append_left _ (List.mem_of_getElem? (i := 93) (by rfl))))), by rfl⟩
theorem wn_574 : Cond.methodLinkNest "BedsideNet" 264 ⟨"BedsideNet$Alarm", "hush", "()V"⟩ "BedsideNet" ∈ tables_1 := List.mem_of_getElem? (i := 574) (by decide +kernel)
theorem wg_576 : Cond.instanceMethod ⟨"BedsideNet$Alarm", "hush", "()V"⟩ ∈ wsG := List.mem_filter.mpr ⟨List.mem_append_right _ (List.mem_of_getElem? (i := 576) (by decide +kernel)), by decide +kernel⟩
theorem wg_577 : Cond.code ⟨"BedsideNet$Alarm", "hush", "()V"⟩ prog_2_method_6_code 1 (Option.none : Option FieldType) ∈ wsG := List.mem_filter.mpr ⟨List.mem_append_right _ (List.mem_append_right _ (List.mem_append_right _ (List.mem_append_left _ (List.mem_of_getElem? (i := 97) (by rfl))))), by rfl⟩
theorem wg_578 : Cond.methodLink "BedsideNetLaw" 102 ⟨"BedsideNet", "drop", "(I)Z"⟩ ∈ wsG := List.mem_filter.mpr ⟨List.mem_append_right _ (List.mem_of_getElem? (i := 578) (by decide +kernel)), by decide +kernel⟩
theorem wg_579 : Cond.instanceMethod ⟨"BedsideNet", "drop", "(I)Z"⟩ ∈ wsG := List.mem_filter.mpr ⟨List.mem_append_right _ (List.mem_of_getElem? (i := 579) (by decide +kernel)), by decide +kernel⟩
theorem wg_580 : Cond.selects "BedsideNet" ⟨"BedsideNet", "drop", "(I)Z"⟩ ⟨"BedsideNet", "drop", "(I)Z"⟩ ∈ wsG := List.mem_filter.mpr ⟨List.mem_append_right _ (List.mem_of_getElem? (i := 580) (by decide +kernel)), by decide +kernel⟩
theorem wg_581 : Cond.code ⟨"BedsideNet", "drop", "(I)Z"⟩ prog_1_method_16_code 3 (Option.some FieldType.boolean) ∈ wsG := List.mem_filter.mpr ⟨List.mem_append_right _ (List.mem_append_right _ (List.mem_append_right _ (List.mem_append_left _ (List.mem_of_getElem? (i := 101) (by rfl))))), by rfl⟩
theorem wg_582 : Cond.methodLink "BedsideNetLaw" 113 ⟨"BedsideNet", "acknowledge", "(II)Z"⟩ ∈ wsG := List.mem_filter.mpr ⟨List.mem_append_right _ (List.mem_of_getElem? (i := 582) (by decide +kernel)), by decide +kernel⟩
theorem wg_583 : Cond.instanceMethod ⟨"BedsideNet", "acknowledge", "(II)Z"⟩ ∈ wsG := List.mem_filter.mpr ⟨List.mem_append_right _ (List.mem_of_getElem? (i := 583) (by decide +kernel)), by decide +kernel⟩
theorem wg_584 : Cond.selects "BedsideNet" ⟨"BedsideNet", "acknowledge", "(II)Z"⟩ ⟨"BedsideNet", "acknowledge", "(II)Z"⟩ ∈ wsG := List.mem_filter.mpr ⟨List.mem_append_right _ (List.mem_of_getElem? (i := 584) (by decide +kernel)), by decide +kernel⟩
theorem wg_585 : Cond.code ⟨"BedsideNet", "acknowledge", "(II)Z"⟩ prog_1_method_29_code 4 (Option.some FieldType.boolean) ∈ wsG := List.mem_filter.mpr ⟨List.mem_append_right _ (List.mem_append_right _ (List.mem_append_right _ (List.mem_append_left _ (List.mem_of_getElem? (i := 105) (by rfl))))), by rfl⟩
theorem wn_586 : Cond.methodLinkNest "BedsideNet" 319 ⟨"BedsideNet$Known", "sounds", "()Z"⟩ "BedsideNet" ∈ tables_1 := List.mem_of_getElem? (i := 586) (by decide +kernel)
theorem wg_588 : Cond.instanceMethod ⟨"BedsideNet$Known", "sounds", "()Z"⟩ ∈ wsG := List.mem_filter.mpr ⟨List.mem_append_right _ (List.mem_of_getElem? (i := 588) (by decide +kernel)), by decide +kernel⟩
theorem wg_589 : Cond.code ⟨"BedsideNet$Known", "sounds", "()Z"⟩ prog_6_method_3_code 1 (Option.some FieldType.boolean) ∈ wsG := List.mem_filter.mpr ⟨List.mem_append_right _ (List.mem_append_right _ (List.mem_append_right _ (List.mem_append_left _ (List.mem_of_getElem? (i := 109) (by rfl))))), by rfl⟩
theorem wg_590 : Cond.methodLink "BedsideNetLaw" 117 ⟨"BedsideNet", "inhibit", "(III)Z"⟩ ∈ wsG := List.mem_filter.mpr ⟨List.mem_append_right _ (List.mem_of_getElem? (i := 590) (by decide +kernel)), by decide +kernel⟩
theorem wg_591 : Cond.instanceMethod ⟨"BedsideNet", "inhibit", "(III)Z"⟩ ∈ wsG := List.mem_filter.mpr ⟨List.mem_append_right _ (List.mem_of_getElem? (i := 591) (by decide +kernel)), by decide +kernel⟩
theorem wg_592 : Cond.selects "BedsideNet" ⟨"BedsideNet", "inhibit", "(III)Z"⟩ ⟨"BedsideNet", "inhibit", "(III)Z"⟩ ∈ wsG := List.mem_filter.mpr ⟨List.mem_append_right _ (List.mem_of_getElem? (i := 592) (by decide +kernel)), by decide +kernel⟩
theorem wg_593 : Cond.code ⟨"BedsideNet", "inhibit", "(III)Z"⟩ prog_1_method_30_code 5 (Option.some FieldType.boolean) ∈ wsG := List.mem_filter.mpr ⟨List.mem_append_right _ (List.mem_append_right _ (List.mem_append_right _ (List.mem_append_left _ (List.mem_of_getElem? (i := 113) (by rfl))))), by rfl⟩
theorem wg_594 : Cond.methodLink "BedsideNetLaw" 121 ⟨"BedsideNet", "lease", "(II)Z"⟩ ∈ wsG := List.mem_filter.mpr ⟨List.mem_append_right _ (List.mem_of_getElem? (i := 594) (by decide +kernel)), by decide +kernel⟩
theorem wg_595 : Cond.instanceMethod ⟨"BedsideNet", "lease", "(II)Z"⟩ ∈ wsG := List.mem_filter.mpr ⟨List.mem_append_right _ (List.mem_of_getElem? (i := 595) (by decide +kernel)), by decide +kernel⟩
theorem wg_596 : Cond.selects "BedsideNet" ⟨"BedsideNet", "lease", "(II)Z"⟩ ⟨"BedsideNet", "lease", "(II)Z"⟩ ∈ wsG := List.mem_filter.mpr ⟨List.mem_append_right _ (List.mem_of_getElem? (i := 596) (by decide +kernel)), by decide +kernel⟩
theorem wg_597 : Cond.code ⟨"BedsideNet", "lease", "(II)Z"⟩ prog_1_method_31_code 5 (Option.some FieldType.boolean) ∈ wsG := List.mem_filter.mpr ⟨List.mem_append_right _ (List.mem_append_right _ (List.mem_append_right _ (List.mem_append_left _ (List.mem_of_getElem? (i := 117) (by rfl))))), by rfl⟩
theorem wg_598 : Cond.methodLink "BedsideNet" 331 ⟨"BedsideNet", "isController", "(I)Z"⟩ ∈ wsG := List.mem_filter.mpr ⟨List.mem_append_right _ (List.mem_of_getElem? (i := 598) (by decide +kernel)), by decide +kernel⟩
theorem wg_599 : Cond.static ⟨"BedsideNet", "isController", "(I)Z"⟩ ∈ wsG := List.mem_filter.mpr ⟨List.mem_append_right _ (List.mem_of_getElem? (i := 599) (by decide +kernel)), by decide +kernel⟩
theorem wg_600 : Cond.code ⟨"BedsideNet", "isController", "(I)Z"⟩ prog_1_method_43_code 1 (Option.some FieldType.boolean) ∈ wsG := List.mem_filter.mpr ⟨List.mem_append_right _ (List.mem_append_right _ (List.mem_append_right _ (List.mem_append_left _ (List.mem_of_getElem? (i := 120) (by rfl))))), by rfl⟩
theorem wg_601 : Cond.methodLink "BedsideNet" 334 ⟨"BedsideNet", "isSettable", "(I)Z"⟩ ∈ wsG := List.mem_filter.mpr ⟨List.mem_append_right _ (List.mem_of_getElem? (i := 601) (by decide +kernel)), by decide +kernel⟩
theorem wg_603 : Cond.instanceMethod ⟨"BedsideNet", "isSettable", "(I)Z"⟩ ∈ wsG := List.mem_filter.mpr ⟨List.mem_append_right _ (List.mem_of_getElem? (i := 603) (by decide +kernel)), by decide +kernel⟩
theorem wg_604 : Cond.code ⟨"BedsideNet", "isSettable", "(I)Z"⟩ prog_1_method_49_code 2 (Option.some FieldType.boolean) ∈ wsG := List.mem_filter.mpr ⟨List.mem_append_right _ (List.mem_append_right _ (List.mem_append_right _ (List.mem_append_left _ (List.mem_of_getElem? (i := 124) (by rfl))))), by rfl⟩
theorem wg_605 : Cond.methodLink "BedsideNetLaw" 129 ⟨"BedsideNet", "local", "(IIZ)Z"⟩ ∈ wsG := List.mem_filter.mpr ⟨List.mem_append_right _ (List.mem_of_getElem? (i := 605) (by decide +kernel)), by decide +kernel⟩
theorem wg_606 : Cond.instanceMethod ⟨"BedsideNet", "local", "(IIZ)Z"⟩ ∈ wsG := List.mem_filter.mpr ⟨List.mem_append_right _ (List.mem_of_getElem? (i := 606) (by decide +kernel)), by decide +kernel⟩
theorem wg_607 : Cond.selects "BedsideNet" ⟨"BedsideNet", "local", "(IIZ)Z"⟩ ⟨"BedsideNet", "local", "(IIZ)Z"⟩ ∈ wsG := List.mem_filter.mpr ⟨List.mem_append_right _ (List.mem_of_getElem? (i := 607) (by decide +kernel)), by decide +kernel⟩
theorem wg_608 : Cond.code ⟨"BedsideNet", "local", "(IIZ)Z"⟩ prog_1_method_33_code 5 (Option.some FieldType.boolean) ∈ wsG := List.mem_filter.mpr ⟨List.mem_append_right _ (List.mem_append_right _ (List.mem_append_right _ (List.mem_append_left _ (List.mem_of_getElem? (i := 128) (by rfl))))), by rfl⟩
theorem wg_609 : Cond.methodLink "BedsideNetLaw" 134 ⟨"BedsideNet", "restart", "(I)Z"⟩ ∈ wsG := List.mem_filter.mpr ⟨List.mem_append_right _ (List.mem_of_getElem? (i := 609) (by decide +kernel)), by decide +kernel⟩
theorem wg_610 : Cond.instanceMethod ⟨"BedsideNet", "restart", "(I)Z"⟩ ∈ wsG := List.mem_filter.mpr ⟨List.mem_append_right _ (List.mem_of_getElem? (i := 610) (by decide +kernel)), by decide +kernel⟩
theorem wg_611 : Cond.selects "BedsideNet" ⟨"BedsideNet", "restart", "(I)Z"⟩ ⟨"BedsideNet", "restart", "(I)Z"⟩ ∈ wsG := List.mem_filter.mpr ⟨List.mem_append_right _ (List.mem_of_getElem? (i := 611) (by decide +kernel)), by decide +kernel⟩
theorem wg_612 : Cond.code ⟨"BedsideNet", "restart", "(I)Z"⟩ prog_1_method_34_code 2 (Option.some FieldType.boolean) ∈ wsG := List.mem_filter.mpr ⟨List.mem_append_right _ (List.mem_append_right _ (List.mem_append_right _ (List.mem_append_left _ (List.mem_of_getElem? (i := 132) (by rfl))))), by rfl⟩
theorem wn_613 : Cond.methodLinkNest "BedsideNet" 347 ⟨"BedsideNet$Device", "beginLife", "()V"⟩ "BedsideNet" ∈ tables_1 := List.mem_of_getElem? (i := 613) (by decide +kernel)
theorem wg_615 : Cond.instanceMethod ⟨"BedsideNet$Device", "beginLife", "()V"⟩ ∈ wsG := List.mem_filter.mpr ⟨List.mem_append_right _ (List.mem_of_getElem? (i := 615) (by decide +kernel)), by decide +kernel⟩
theorem wg_616 : Cond.code ⟨"BedsideNet$Device", "beginLife", "()V"⟩ prog_4_method_3_code 2 (Option.none : Option FieldType) ∈ wsG := List.mem_filter.mpr ⟨List.mem_append_right _ (List.mem_append_right _ (List.mem_append_right _ (List.mem_append_left _ (List.mem_of_getElem? (i := 136) (by rfl))))), by rfl⟩
theorem wn_617 : Cond.methodLinkNest "BedsideNet$Device" 58 ⟨"BedsideNet$Channel", "forget", "()V"⟩ "BedsideNet" ∈ tables_1 := List.mem_of_getElem? (i := 617) (by decide +kernel)
theorem wg_619 : Cond.instanceMethod ⟨"BedsideNet$Channel", "forget", "()V"⟩ ∈ wsG := List.mem_filter.mpr ⟨List.mem_append_right _ (List.mem_of_getElem? (i := 619) (by decide +kernel)), by decide +kernel⟩
theorem wg_620 : Cond.code ⟨"BedsideNet$Channel", "forget", "()V"⟩ prog_3_method_4_code 1 (Option.none : Option FieldType) ∈ wsG := List.mem_filter.mpr ⟨List.mem_append_right _ (List.mem_append_right _ (List.mem_append_right _ (List.mem_append_left _ (List.mem_of_getElem? (i := 140) (by rfl))))), by rfl⟩
theorem wn_621 : Cond.methodLinkNest "BedsideNet$Channel" 64 ⟨"BedsideNet$Alarm", "forget", "()V"⟩ "BedsideNet" ∈ tables_1 := List.mem_of_getElem? (i := 621) (by decide +kernel)
theorem wg_623 : Cond.instanceMethod ⟨"BedsideNet$Alarm", "forget", "()V"⟩ ∈ wsG := List.mem_filter.mpr ⟨List.mem_append_right _ (List.mem_of_getElem? (i := 623) (by decide +kernel)), by decide +kernel⟩
theorem wg_624 : Cond.code ⟨"BedsideNet$Alarm", "forget", "()V"⟩ prog_2_method_4_code 1 (Option.none : Option FieldType) ∈ wsG := List.mem_filter.mpr ⟨List.mem_append_right _ (List.mem_append_right _ (List.mem_append_right _ (List.mem_append_left _ (List.mem_of_getElem? (i := 144) (by rfl))))), by rfl⟩
theorem wg_625 : Cond.methodLink "BedsideNetLaw" 144 ⟨"BedsideNet", "count", "(I)I"⟩ ∈ wsG := List.mem_filter.mpr ⟨List.mem_append_right _ (List.mem_of_getElem? (i := 625) (by decide +kernel)), by decide +kernel⟩
theorem wg_626 : Cond.instanceMethod ⟨"BedsideNet", "count", "(I)I"⟩ ∈ wsG := List.mem_filter.mpr ⟨List.mem_append_right _ (List.mem_of_getElem? (i := 626) (by decide +kernel)), by decide +kernel⟩
theorem wg_627 : Cond.selects "BedsideNet" ⟨"BedsideNet", "count", "(I)I"⟩ ⟨"BedsideNet", "count", "(I)I"⟩ ∈ wsG := List.mem_filter.mpr ⟨List.mem_append_right _ (List.mem_of_getElem? (i := 627) (by decide +kernel)), by decide +kernel⟩
theorem wg_628 : Cond.code ⟨"BedsideNet", "count", "(I)I"⟩ prog_1_method_38_code 2 (Option.some FieldType.int) ∈ wsG := List.mem_filter.mpr ⟨List.mem_append_right _ (List.mem_append_right _ (List.mem_append_right _ (List.mem_append_left _ (List.mem_of_getElem? (i := 148) (by rfl))))), by rfl⟩
theorem wg_629 : Cond.methodLink "BedsideNet" 379 ⟨"BedsideNet", "stationSounds", "()Z"⟩ ∈ wsG := List.mem_filter.mpr ⟨List.mem_append_right _ (List.mem_of_getElem? (i := 629) (by decide +kernel)), by decide +kernel⟩
theorem wg_631 : Cond.instanceMethod ⟨"BedsideNet", "stationSounds", "()Z"⟩ ∈ wsG := List.mem_filter.mpr ⟨List.mem_append_right _ (List.mem_of_getElem? (i := 631) (by decide +kernel)), by decide +kernel⟩
theorem wg_632 : Cond.code ⟨"BedsideNet", "stationSounds", "()Z"⟩ prog_1_method_39_code 2 (Option.some FieldType.boolean) ∈ wsG := List.mem_filter.mpr ⟨List.mem_append_right _ (List.mem_append_right _ (List.mem_append_right _ (List.mem_append_left _ (List.mem_of_getElem? (i := 152) (by rfl))))), by rfl⟩
theorem wn_633 : Cond.methodLinkNest "BedsideNet" 177 ⟨"BedsideNet$Device", "soundsAtStation", "()Z"⟩ "BedsideNet" ∈ tables_1 := List.mem_of_getElem? (i := 633) (by decide +kernel)
theorem wg_635 : Cond.instanceMethod ⟨"BedsideNet$Device", "soundsAtStation", "()Z"⟩ ∈ wsG := List.mem_filter.mpr ⟨List.mem_append_right _ (List.mem_of_getElem? (i := 635) (by decide +kernel)), by decide +kernel⟩
theorem wg_636 : Cond.code ⟨"BedsideNet$Device", "soundsAtStation", "()Z"⟩ prog_4_method_8_code 2 (Option.some FieldType.boolean) ∈ wsG := List.mem_filter.mpr ⟨List.mem_append_right _ (List.mem_append_right _ (List.mem_append_right _ (List.mem_append_left _ (List.mem_of_getElem? (i := 156) (by rfl))))), by rfl⟩
theorem wn_637 : Cond.methodLinkNest "BedsideNet$Device" 81 ⟨"BedsideNet$Known", "sounds", "()Z"⟩ "BedsideNet" ∈ tables_1 := List.mem_of_getElem? (i := 637) (by decide +kernel)
theorem wg_638 : Cond.methodLink "BedsideNetLaw" 51 ⟨"BedsideNetLaw", "channel", "(LBedsideNet;IIIII[J)I"⟩ ∈ wsG := List.mem_filter.mpr ⟨List.mem_append_right _ (List.mem_of_getElem? (i := 638) (by decide +kernel)), by decide +kernel⟩
theorem wg_639 : Cond.static ⟨"BedsideNetLaw", "channel", "(LBedsideNet;IIIII[J)I"⟩ ∈ wsG := List.mem_filter.mpr ⟨List.mem_append_right _ (List.mem_of_getElem? (i := 639) (by decide +kernel)), by decide +kernel⟩
theorem wg_641 : Cond.classLink "BedsideNetLaw" 13 "java/lang/IllegalArgumentException" ∈ wsG := List.mem_filter.mpr ⟨List.mem_append_right _ (List.mem_of_getElem? (i := 641) (by decide +kernel)), by decide +kernel⟩
theorem wg_642 : Cond.classLink "BedsideNetLaw" 15 "java/lang/IllegalStateException" ∈ wsG := List.mem_filter.mpr ⟨List.mem_append_right _ (List.mem_of_getElem? (i := 642) (by decide +kernel)), by decide +kernel⟩
theorem wg_643 : Cond.methodLink "BedsideNetLaw" 7 ⟨"BedsideNet", "channel", "(IIIII)I"⟩ ∈ wsG := List.mem_filter.mpr ⟨List.mem_append_right _ (List.mem_of_getElem? (i := 643) (by decide +kernel)), by decide +kernel⟩
theorem wg_644 : Cond.instanceMethod ⟨"BedsideNet", "channel", "(IIIII)I"⟩ ∈ wsG := List.mem_filter.mpr ⟨List.mem_append_right _ (List.mem_of_getElem? (i := 644) (by decide +kernel)), by decide +kernel⟩
theorem wg_645 : Cond.selects "BedsideNet" ⟨"BedsideNet", "channel", "(IIIII)I"⟩ ⟨"BedsideNet", "channel", "(IIIII)I"⟩ ∈ wsG := List.mem_filter.mpr ⟨List.mem_append_right _ (List.mem_of_getElem? (i := 645) (by decide +kernel)), by decide +kernel⟩
theorem wg_646 : Cond.code ⟨"BedsideNet", "channel", "(IIIII)I"⟩ prog_1_method_3_code 8 (Option.some FieldType.int) ∈ wsG := List.mem_filter.mpr ⟨List.mem_append_right _ (List.mem_append_right _ (List.mem_append_right _ (List.mem_append_left _ (List.mem_of_getElem? (i := 166) (by rfl))))), by rfl⟩
theorem wg_647 : Cond.methodLink "BedsideNet" 66 ⟨"BedsideNet", "isUnit", "(I)Z"⟩ ∈ wsG := List.mem_filter.mpr ⟨List.mem_append_right _ (List.mem_of_getElem? (i := 647) (by decide +kernel)), by decide +kernel⟩
theorem wg_648 : Cond.static ⟨"BedsideNet", "isUnit", "(I)Z"⟩ ∈ wsG := List.mem_filter.mpr ⟨List.mem_append_right _ (List.mem_of_getElem? (i := 648) (by decide +kernel)), by decide +kernel⟩
theorem wg_649 : Cond.code ⟨"BedsideNet", "isUnit", "(I)Z"⟩ prog_1_method_42_code 1 (Option.some FieldType.boolean) ∈ wsG := List.mem_filter.mpr ⟨List.mem_append_right _ (List.mem_append_right _ (List.mem_append_right _ (List.mem_append_left _ (List.mem_of_getElem? (i := 169) (by rfl))))), by rfl⟩
theorem wg_650 : Cond.classLink "BedsideNet" 73 "java/lang/IllegalArgumentException" ∈ wsG := List.mem_filter.mpr ⟨List.mem_append_right _ (List.mem_of_getElem? (i := 650) (by decide +kernel)), by decide +kernel⟩
theorem wg_651 : Cond.instantiable "java/lang/IllegalArgumentException" 6 ∈ wsG := List.mem_filter.mpr ⟨List.mem_append_right _ (List.mem_of_getElem? (i := 651) (by decide +kernel)), by decide +kernel⟩
theorem wn_652 : Cond.castable "java/lang/IllegalArgumentException" "java/lang/IllegalArgumentException" ∈ tables_1 := List.mem_of_getElem? (i := 652) (by decide +kernel)
theorem wg_659 : Cond.selects "java/lang/IllegalArgumentException" ⟨"java/lang/Throwable", "fillInStackTrace", "(I)Ljava/lang/Throwable;"⟩ ⟨"java/lang/Throwable", "fillInStackTrace", "(I)Ljava/lang/Throwable;"⟩ ∈ wsG := List.mem_filter.mpr ⟨List.mem_append_right _ (List.mem_of_getElem? (i := 659) (by decide +kernel)), by decide +kernel⟩
theorem wg_660 : Cond.selects "java/lang/IllegalArgumentException" ⟨"java/lang/Throwable", "fillInStackTrace", "()Ljava/lang/Throwable;"⟩ ⟨"java/lang/Throwable", "fillInStackTrace", "()Ljava/lang/Throwable;"⟩ ∈ wsG := List.mem_filter.mpr ⟨List.mem_append_right _ (List.mem_of_getElem? (i := 660) (by decide +kernel)), by decide +kernel⟩
theorem wg_661 : Cond.lays "java/lang/IllegalArgumentException" "java/lang/Throwable" "cause" "Ljava/lang/Throwable;" ∈ wsG := List.mem_filter.mpr ⟨List.mem_append_right _ (List.mem_of_getElem? (i := 661) (by decide +kernel)), by decide +kernel⟩
theorem wg_662 : Cond.lays "java/lang/Throwable" "java/lang/Throwable" "cause" "Ljava/lang/Throwable;" ∈ wsG := List.mem_filter.mpr ⟨List.mem_append_right _ (List.mem_of_getElem? (i := 662) (by decide +kernel)), by decide +kernel⟩
theorem wg_663 : Cond.lays "java/lang/IllegalArgumentException" "java/lang/Throwable" "stackTrace" "[Ljava/lang/StackTraceElement;" ∈ wsG := List.mem_filter.mpr ⟨List.mem_append_right _ (List.mem_of_getElem? (i := 663) (by decide +kernel)), by decide +kernel⟩
theorem wg_664 : Cond.lays "java/lang/Throwable" "java/lang/Throwable" "stackTrace" "[Ljava/lang/StackTraceElement;" ∈ wsG := List.mem_filter.mpr ⟨List.mem_append_right _ (List.mem_of_getElem? (i := 664) (by decide +kernel)), by decide +kernel⟩
theorem wg_665 : Cond.lays "java/lang/IllegalArgumentException" "java/lang/Throwable" "suppressedExceptions" "Ljava/util/List;" ∈ wsG := List.mem_filter.mpr ⟨List.mem_append_right _ (List.mem_of_getElem? (i := 665) (by decide +kernel)), by decide +kernel⟩
theorem wg_666 : Cond.lays "java/lang/Throwable" "java/lang/Throwable" "suppressedExceptions" "Ljava/util/List;" ∈ wsG := List.mem_filter.mpr ⟨List.mem_append_right _ (List.mem_of_getElem? (i := 666) (by decide +kernel)), by decide +kernel⟩
theorem wg_667 : Cond.lays "java/lang/IllegalArgumentException" "java/lang/Throwable" "detailMessage" "Ljava/lang/String;" ∈ wsG := List.mem_filter.mpr ⟨List.mem_append_right _ (List.mem_of_getElem? (i := 667) (by decide +kernel)), by decide +kernel⟩
theorem wg_668 : Cond.lays "java/lang/Throwable" "java/lang/Throwable" "detailMessage" "Ljava/lang/String;" ∈ wsG := List.mem_filter.mpr ⟨List.mem_append_right _ (List.mem_of_getElem? (i := 668) (by decide +kernel)), by decide +kernel⟩
theorem wg_669 : Cond.lays "java/lang/IllegalArgumentException" "java/lang/Throwable" "backtrace" "Ljava/lang/Object;" ∈ wsG := List.mem_filter.mpr ⟨List.mem_append_right _ (List.mem_of_getElem? (i := 669) (by decide +kernel)), by decide +kernel⟩
theorem wg_670 : Cond.lays "java/lang/Throwable" "java/lang/Throwable" "backtrace" "Ljava/lang/Object;" ∈ wsG := List.mem_filter.mpr ⟨List.mem_append_right _ (List.mem_of_getElem? (i := 670) (by decide +kernel)), by decide +kernel⟩
theorem wg_671 : Cond.fieldLink "java/lang/Throwable" 198 "java/lang/Throwable" "backtrace" "Ljava/lang/Object;" ∈ wsG := List.mem_filter.mpr ⟨List.mem_append_right _ (List.mem_of_getElem? (i := 671) (by decide +kernel)), by decide +kernel⟩
theorem wg_673 : Cond.instanceMethod ⟨"java/lang/Throwable", "<init>", "()V"⟩ ∈ wsG := List.mem_filter.mpr ⟨List.mem_append_right _ (List.mem_of_getElem? (i := 673) (by decide +kernel)), by decide +kernel⟩
theorem wg_674 : Cond.code ⟨"java/lang/Throwable", "<init>", "()V"⟩ prog_20_method_1_code 1 (Option.none : Option FieldType) ∈ wsG := List.mem_filter.mpr ⟨List.mem_append_right _ (List.mem_append_right _ (List.mem_append_right _ (List.mem_append_left _ (List.mem_of_getElem? (i := 194) (by rfl))))), by rfl⟩
theorem wg_675 : Cond.methodLink "java/lang/Throwable" 1 ⟨"java/lang/Object", "<init>", "()V"⟩ ∈ wsG := List.mem_filter.mpr ⟨List.mem_append_right _ (List.mem_of_getElem? (i := 675) (by decide +kernel)), by decide +kernel⟩
theorem wg_676 : Cond.fieldLink "java/lang/Throwable" 13 "java/lang/Throwable" "UNASSIGNED_STACK" "[Ljava/lang/StackTraceElement;" ∈ wsG := List.mem_filter.mpr ⟨List.mem_append_right _ (List.mem_of_getElem? (i := 676) (by decide +kernel)), by decide +kernel⟩
theorem wg_678 : Cond.fieldLink "java/lang/Throwable" 20 "java/lang/Throwable" "SUPPRESSED_SENTINEL" "Ljava/util/List;" ∈ wsG := List.mem_filter.mpr ⟨List.mem_append_right _ (List.mem_of_getElem? (i := 678) (by decide +kernel)), by decide +kernel⟩
theorem wg_680 : Cond.methodLink "java/lang/Throwable" 27 ⟨"java/lang/Throwable", "fillInStackTrace", "()Ljava/lang/Throwable;"⟩ ∈ wsG := List.mem_filter.mpr ⟨List.mem_append_right _ (List.mem_of_getElem? (i := 680) (by decide +kernel)), by decide +kernel⟩
theorem wg_681 : Cond.instanceMethod ⟨"java/lang/Throwable", "fillInStackTrace", "()Ljava/lang/Throwable;"⟩ ∈ wsG := List.mem_filter.mpr ⟨List.mem_append_right _ (List.mem_of_getElem? (i := 681) (by decide +kernel)), by decide +kernel⟩
theorem wg_683 : Cond.selects "java/lang/IllegalStateException" ⟨"java/lang/Throwable", "fillInStackTrace", "()Ljava/lang/Throwable;"⟩ ⟨"java/lang/Throwable", "fillInStackTrace", "()Ljava/lang/Throwable;"⟩ ∈ wsG := List.mem_filter.mpr ⟨List.mem_append_right _ (List.mem_of_getElem? (i := 683) (by decide +kernel)), by decide +kernel⟩
theorem wg_684 : Cond.selects "java/lang/IndexOutOfBoundsException" ⟨"java/lang/Throwable", "fillInStackTrace", "()Ljava/lang/Throwable;"⟩ ⟨"java/lang/Throwable", "fillInStackTrace", "()Ljava/lang/Throwable;"⟩ ∈ wsG := List.mem_filter.mpr ⟨List.mem_append_right _ (List.mem_of_getElem? (i := 684) (by decide +kernel)), by decide +kernel⟩
theorem wg_685 : Cond.selects "java/util/NoSuchElementException" ⟨"java/lang/Throwable", "fillInStackTrace", "()Ljava/lang/Throwable;"⟩ ⟨"java/lang/Throwable", "fillInStackTrace", "()Ljava/lang/Throwable;"⟩ ∈ wsG := List.mem_filter.mpr ⟨List.mem_append_right _ (List.mem_of_getElem? (i := 685) (by decide +kernel)), by decide +kernel⟩
theorem wg_687 : Cond.methodLink "java/lang/Throwable" 202 ⟨"java/lang/Throwable", "fillInStackTrace", "(I)Ljava/lang/Throwable;"⟩ ∈ wsG := List.mem_filter.mpr ⟨List.mem_append_right _ (List.mem_of_getElem? (i := 687) (by decide +kernel)), by decide +kernel⟩
theorem wg_689 : Cond.instanceMethod ⟨"java/lang/Throwable", "fillInStackTrace", "(I)Ljava/lang/Throwable;"⟩ ∈ wsG := List.mem_filter.mpr ⟨List.mem_append_right _ (List.mem_of_getElem? (i := 689) (by decide +kernel)), by decide +kernel⟩
theorem wg_690 : Cond.instantiable "java/lang/Throwable" 6 ∈ wsG := List.mem_filter.mpr ⟨List.mem_append_right _ (List.mem_of_getElem? (i := 690) (by decide +kernel)), by decide +kernel⟩
theorem wg_692 : Cond.methodLink "BedsideNet" 75 ⟨"java/lang/IllegalArgumentException", "<init>", "()V"⟩ ∈ wsG := List.mem_filter.mpr ⟨List.mem_append_right _ (List.mem_of_getElem? (i := 692) (by decide +kernel)), by decide +kernel⟩
theorem wg_693 : Cond.instanceMethod ⟨"java/lang/IllegalArgumentException", "<init>", "()V"⟩ ∈ wsG := List.mem_filter.mpr ⟨List.mem_append_right _ (List.mem_of_getElem? (i := 693) (by decide +kernel)), by decide +kernel⟩
theorem wg_694 : Cond.code ⟨"java/lang/IllegalArgumentException", "<init>", "()V"⟩ prog_15_method_1_code 1 (Option.none : Option FieldType) ∈ wsG := List.mem_filter.mpr ⟨List.mem_append_right _ (List.mem_append_right _ (List.mem_append_right _ (List.mem_append_left _ (List.mem_of_getElem? (i := 214) (by rfl))))), by rfl⟩
theorem wg_695 : Cond.methodLink "java/lang/IllegalArgumentException" 1 ⟨"java/lang/RuntimeException", "<init>", "()V"⟩ ∈ wsG := List.mem_filter.mpr ⟨List.mem_append_right _ (List.mem_of_getElem? (i := 695) (by decide +kernel)), by decide +kernel⟩
theorem wg_696 : Cond.instanceMethod ⟨"java/lang/RuntimeException", "<init>", "()V"⟩ ∈ wsG := List.mem_filter.mpr ⟨List.mem_append_right _ (List.mem_of_getElem? (i := 696) (by decide +kernel)), by decide +kernel⟩
theorem wg_697 : Cond.code ⟨"java/lang/RuntimeException", "<init>", "()V"⟩ prog_19_method_1_code 1 (Option.none : Option FieldType) ∈ wsG := List.mem_filter.mpr ⟨List.mem_append_right _ (List.mem_append_right _ (List.mem_append_right _ (List.mem_append_left _ (List.mem_of_getElem? (i := 217) (by rfl))))), by rfl⟩
theorem wg_698 : Cond.methodLink "java/lang/RuntimeException" 1 ⟨"java/lang/Exception", "<init>", "()V"⟩ ∈ wsG := List.mem_filter.mpr ⟨List.mem_append_right _ (List.mem_of_getElem? (i := 698) (by decide +kernel)), by decide +kernel⟩
theorem wg_699 : Cond.instanceMethod ⟨"java/lang/Exception", "<init>", "()V"⟩ ∈ wsG := List.mem_filter.mpr ⟨List.mem_append_right _ (List.mem_of_getElem? (i := 699) (by decide +kernel)), by decide +kernel⟩
theorem wg_700 : Cond.code ⟨"java/lang/Exception", "<init>", "()V"⟩ prog_14_method_1_code 1 (Option.none : Option FieldType) ∈ wsG := List.mem_filter.mpr ⟨List.mem_append_right _ (List.mem_append_right _ (List.mem_append_right _ (List.mem_append_left _ (List.mem_of_getElem? (i := 220) (by rfl))))), by rfl⟩
theorem wg_701 : Cond.methodLink "java/lang/Exception" 1 ⟨"java/lang/Throwable", "<init>", "()V"⟩ ∈ wsG := List.mem_filter.mpr ⟨List.mem_append_right _ (List.mem_of_getElem? (i := 701) (by decide +kernel)), by decide +kernel⟩
theorem wg_702 : Cond.fieldLink "java/lang/Throwable" 198 "java/lang/Throwable" "backtrace" "Ljava/lang/Object;" ∈ wsG := List.mem_filter.mpr ⟨List.mem_append_right _ (List.mem_of_getElem? (i := 702) (by decide +kernel)), by decide +kernel⟩
theorem wg_703 : Cond.fieldLink "java/lang/Throwable" 7 "java/lang/Throwable" "cause" "Ljava/lang/Throwable;" ∈ wsG := List.mem_filter.mpr ⟨List.mem_append_right _ (List.mem_of_getElem? (i := 703) (by decide +kernel)), by decide +kernel⟩
theorem wg_704 : Cond.fieldLink "java/lang/Throwable" 17 "java/lang/Throwable" "stackTrace" "[Ljava/lang/StackTraceElement;" ∈ wsG := List.mem_filter.mpr ⟨List.mem_append_right _ (List.mem_of_getElem? (i := 704) (by decide +kernel)), by decide +kernel⟩
theorem wg_705 : Cond.fieldLink "java/lang/Throwable" 24 "java/lang/Throwable" "suppressedExceptions" "Ljava/util/List;" ∈ wsG := List.mem_filter.mpr ⟨List.mem_append_right _ (List.mem_of_getElem? (i := 705) (by decide +kernel)), by decide +kernel⟩
theorem wg_710 : Cond.lays "java/lang/IllegalArgumentException" "java/lang/Throwable" "depth" "I" ∈ wsG := List.mem_filter.mpr ⟨List.mem_append_right _ (List.mem_of_getElem? (i := 710) (by decide +kernel)), by decide +kernel⟩
theorem wg_714 : Cond.classLink "BedsideNet" 79 "java/lang/IllegalStateException" ∈ wsG := List.mem_filter.mpr ⟨List.mem_append_right _ (List.mem_of_getElem? (i := 714) (by decide +kernel)), by decide +kernel⟩
theorem wg_715 : Cond.instantiable "java/lang/IllegalStateException" 6 ∈ wsG := List.mem_filter.mpr ⟨List.mem_append_right _ (List.mem_of_getElem? (i := 715) (by decide +kernel)), by decide +kernel⟩
theorem wn_716 : Cond.castable "java/lang/IllegalStateException" "java/lang/IllegalStateException" ∈ tables_1 := List.mem_of_getElem? (i := 716) (by decide +kernel)
theorem wg_717 : Cond.selects "java/lang/IllegalStateException" ⟨"java/lang/Throwable", "fillInStackTrace", "(I)Ljava/lang/Throwable;"⟩ ⟨"java/lang/Throwable", "fillInStackTrace", "(I)Ljava/lang/Throwable;"⟩ ∈ wsG := List.mem_filter.mpr ⟨List.mem_append_right _ (List.mem_of_getElem? (i := 717) (by decide +kernel)), by decide +kernel⟩
theorem wg_718 : Cond.lays "java/lang/IllegalStateException" "java/lang/Throwable" "cause" "Ljava/lang/Throwable;" ∈ wsG := List.mem_filter.mpr ⟨List.mem_append_right _ (List.mem_of_getElem? (i := 718) (by decide +kernel)), by decide +kernel⟩
theorem wg_719 : Cond.lays "java/lang/IllegalStateException" "java/lang/Throwable" "stackTrace" "[Ljava/lang/StackTraceElement;" ∈ wsG := List.mem_filter.mpr ⟨List.mem_append_right _ (List.mem_of_getElem? (i := 719) (by decide +kernel)), by decide +kernel⟩
theorem wg_720 : Cond.lays "java/lang/IllegalStateException" "java/lang/Throwable" "suppressedExceptions" "Ljava/util/List;" ∈ wsG := List.mem_filter.mpr ⟨List.mem_append_right _ (List.mem_of_getElem? (i := 720) (by decide +kernel)), by decide +kernel⟩
theorem wg_721 : Cond.lays "java/lang/IllegalStateException" "java/lang/Throwable" "detailMessage" "Ljava/lang/String;" ∈ wsG := List.mem_filter.mpr ⟨List.mem_append_right _ (List.mem_of_getElem? (i := 721) (by decide +kernel)), by decide +kernel⟩
theorem wg_722 : Cond.lays "java/lang/IllegalStateException" "java/lang/Throwable" "backtrace" "Ljava/lang/Object;" ∈ wsG := List.mem_filter.mpr ⟨List.mem_append_right _ (List.mem_of_getElem? (i := 722) (by decide +kernel)), by decide +kernel⟩
theorem wg_723 : Cond.methodLink "BedsideNet" 81 ⟨"java/lang/IllegalStateException", "<init>", "()V"⟩ ∈ wsG := List.mem_filter.mpr ⟨List.mem_append_right _ (List.mem_of_getElem? (i := 723) (by decide +kernel)), by decide +kernel⟩
theorem wg_724 : Cond.instanceMethod ⟨"java/lang/IllegalStateException", "<init>", "()V"⟩ ∈ wsG := List.mem_filter.mpr ⟨List.mem_append_right _ (List.mem_of_getElem? (i := 724) (by decide +kernel)), by decide +kernel⟩
theorem wg_725 : Cond.code ⟨"java/lang/IllegalStateException", "<init>", "()V"⟩ prog_16_method_1_code 1 (Option.none : Option FieldType) ∈ wsG := List.mem_filter.mpr ⟨List.mem_append_right _ (List.mem_append_right _ (List.mem_append_right _ (List.mem_append_right _ (List.mem_append_left _ (List.mem_of_getElem? (i := 5) (by rfl)))))), by rfl⟩
theorem wg_726 : Cond.methodLink "java/lang/IllegalStateException" 1 ⟨"java/lang/RuntimeException", "<init>", "()V"⟩ ∈ wsG := List.mem_filter.mpr ⟨List.mem_append_right _ (List.mem_of_getElem? (i := 726) (by decide +kernel)), by decide +kernel⟩
theorem wg_727 : Cond.lays "java/lang/IllegalStateException" "java/lang/Throwable" "depth" "I" ∈ wsG := List.mem_filter.mpr ⟨List.mem_append_right _ (List.mem_of_getElem? (i := 727) (by decide +kernel)), by decide +kernel⟩
theorem wn_729 : Cond.methodLinkNest "BedsideNet" 86 ⟨"BedsideNet$Channel", "begin", "(IIII)V"⟩ "BedsideNet" ∈ tables_1 := List.mem_of_getElem? (i := 729) (by decide +kernel)
theorem wg_731 : Cond.instanceMethod ⟨"BedsideNet$Channel", "begin", "(IIII)V"⟩ ∈ wsG := List.mem_filter.mpr ⟨List.mem_append_right _ (List.mem_of_getElem? (i := 731) (by decide +kernel)), by decide +kernel⟩
theorem wg_732 : Cond.code ⟨"BedsideNet$Channel", "begin", "(IIII)V"⟩ prog_3_method_2_code 5 (Option.none : Option FieldType) ∈ wsG := List.mem_filter.mpr ⟨List.mem_append_right _ (List.mem_append_right _ (List.mem_append_right _ (List.mem_append_right _ (List.mem_append_left _ (List.mem_of_getElem? (i := 12) (by rfl)))))), by rfl⟩
theorem wn_733 : Cond.methodLinkNest "BedsideNet$Channel" 40 ⟨"BedsideNet$Range", "set", "(III)V"⟩ "BedsideNet" ∈ tables_1 := List.mem_of_getElem? (i := 733) (by decide +kernel)
theorem wg_734 : Cond.methodLink "BedsideNetLaw" 93 ⟨"BedsideNetLaw", "tick", "(LBedsideNet;I[J)I"⟩ ∈ wsG := List.mem_filter.mpr ⟨List.mem_append_right _ (List.mem_of_getElem? (i := 734) (by decide +kernel)), by decide +kernel⟩
theorem wg_735 : Cond.static ⟨"BedsideNetLaw", "tick", "(LBedsideNet;I[J)I"⟩ ∈ wsG := List.mem_filter.mpr ⟨List.mem_append_right _ (List.mem_of_getElem? (i := 735) (by decide +kernel)), by decide +kernel⟩
theorem wg_737 : Cond.methodLink "BedsideNetLaw" 17 ⟨"BedsideNet", "tick", "(I)I"⟩ ∈ wsG := List.mem_filter.mpr ⟨List.mem_append_right _ (List.mem_of_getElem? (i := 737) (by decide +kernel)), by decide +kernel⟩
theorem wg_738 : Cond.instanceMethod ⟨"BedsideNet", "tick", "(I)I"⟩ ∈ wsG := List.mem_filter.mpr ⟨List.mem_append_right _ (List.mem_of_getElem? (i := 738) (by decide +kernel)), by decide +kernel⟩
theorem wg_739 : Cond.selects "BedsideNet" ⟨"BedsideNet", "tick", "(I)I"⟩ ⟨"BedsideNet", "tick", "(I)I"⟩ ∈ wsG := List.mem_filter.mpr ⟨List.mem_append_right _ (List.mem_of_getElem? (i := 739) (by decide +kernel)), by decide +kernel⟩
theorem wg_740 : Cond.code ⟨"BedsideNet", "tick", "(I)I"⟩ prog_1_method_11_code 3 (Option.some FieldType.int) ∈ wsG := List.mem_filter.mpr ⟨List.mem_append_right _ (List.mem_append_right _ (List.mem_append_right _ (List.mem_append_right _ (List.mem_append_left _ (List.mem_of_getElem? (i := 20) (by rfl)))))), by rfl⟩
theorem wg_741 : Cond.constant "BedsideNet" 151 1000000000 ∈ wsG := List.mem_filter.mpr ⟨List.mem_append_right _ (List.mem_of_getElem? (i := 741) (by decide +kernel)), by decide +kernel⟩
theorem wg_742 : Cond.methodLink "BedsideNet" 155 ⟨"BedsideNet", "repeatValues", "()V"⟩ ∈ wsG := List.mem_filter.mpr ⟨List.mem_append_right _ (List.mem_of_getElem? (i := 742) (by decide +kernel)), by decide +kernel⟩
theorem wg_744 : Cond.instanceMethod ⟨"BedsideNet", "repeatValues", "()V"⟩ ∈ wsG := List.mem_filter.mpr ⟨List.mem_append_right _ (List.mem_of_getElem? (i := 744) (by decide +kernel)), by decide +kernel⟩
theorem wg_745 : Cond.code ⟨"BedsideNet", "repeatValues", "()V"⟩ prog_1_method_12_code 4 (Option.none : Option FieldType) ∈ wsG := List.mem_filter.mpr ⟨List.mem_append_right _ (List.mem_append_right _ (List.mem_append_right _ (List.mem_append_right _ (List.mem_append_left _ (List.mem_of_getElem? (i := 25) (by rfl)))))), by rfl⟩
theorem wg_746 : Cond.methodLink "BedsideNet" 158 ⟨"BedsideNet", "repeatSounds", "()V"⟩ ∈ wsG := List.mem_filter.mpr ⟨List.mem_append_right _ (List.mem_of_getElem? (i := 746) (by decide +kernel)), by decide +kernel⟩
theorem wg_748 : Cond.instanceMethod ⟨"BedsideNet", "repeatSounds", "()V"⟩ ∈ wsG := List.mem_filter.mpr ⟨List.mem_append_right _ (List.mem_of_getElem? (i := 748) (by decide +kernel)), by decide +kernel⟩
theorem wg_749 : Cond.code ⟨"BedsideNet", "repeatSounds", "()V"⟩ prog_1_method_14_code 2 (Option.none : Option FieldType) ∈ wsG := List.mem_filter.mpr ⟨List.mem_append_right _ (List.mem_append_right _ (List.mem_append_right _ (List.mem_append_right _ (List.mem_append_left _ (List.mem_of_getElem? (i := 29) (by rfl)))))), by rfl⟩
theorem wg_750 : Cond.methodLink "BedsideNetLaw" 106 ⟨"BedsideNetLaw", "bind", "(LBedsideNet;II[J)I"⟩ ∈ wsG := List.mem_filter.mpr ⟨List.mem_append_right _ (List.mem_of_getElem? (i := 750) (by decide +kernel)), by decide +kernel⟩
theorem wg_751 : Cond.static ⟨"BedsideNetLaw", "bind", "(LBedsideNet;II[J)I"⟩ ∈ wsG := List.mem_filter.mpr ⟨List.mem_append_right _ (List.mem_of_getElem? (i := 751) (by decide +kernel)), by decide +kernel⟩
theorem wg_753 : Cond.methodLink "BedsideNetLaw" 21 ⟨"BedsideNet", "bind", "(II)I"⟩ ∈ wsG := List.mem_filter.mpr ⟨List.mem_append_right _ (List.mem_of_getElem? (i := 753) (by decide +kernel)), by decide +kernel⟩
theorem wg_754 : Cond.instanceMethod ⟨"BedsideNet", "bind", "(II)I"⟩ ∈ wsG := List.mem_filter.mpr ⟨List.mem_append_right _ (List.mem_of_getElem? (i := 754) (by decide +kernel)), by decide +kernel⟩
theorem wg_755 : Cond.selects "BedsideNet" ⟨"BedsideNet", "bind", "(II)I"⟩ ⟨"BedsideNet", "bind", "(II)I"⟩ ∈ wsG := List.mem_filter.mpr ⟨List.mem_append_right _ (List.mem_of_getElem? (i := 755) (by decide +kernel)), by decide +kernel⟩
theorem wg_756 : Cond.code ⟨"BedsideNet", "bind", "(II)I"⟩ prog_1_method_26_code 6 (Option.some FieldType.int) ∈ wsG := List.mem_filter.mpr ⟨List.mem_append_right _ (List.mem_append_right _ (List.mem_append_right _ (List.mem_append_right _ (List.mem_append_left _ (List.mem_of_getElem? (i := 36) (by rfl)))))), by rfl⟩
theorem wg_757 : Cond.methodLink "BedsideNet" 300 ⟨"BedsideNet", "leastDeviceWith", "(II)I"⟩ ∈ wsG := List.mem_filter.mpr ⟨List.mem_append_right _ (List.mem_of_getElem? (i := 757) (by decide +kernel)), by decide +kernel⟩
theorem wg_759 : Cond.instanceMethod ⟨"BedsideNet", "leastDeviceWith", "(II)I"⟩ ∈ wsG := List.mem_filter.mpr ⟨List.mem_append_right _ (List.mem_of_getElem? (i := 759) (by decide +kernel)), by decide +kernel⟩
theorem wg_760 : Cond.code ⟨"BedsideNet", "leastDeviceWith", "(II)I"⟩ prog_1_method_28_code 4 (Option.some FieldType.int) ∈ wsG := List.mem_filter.mpr ⟨List.mem_append_right _ (List.mem_append_right _ (List.mem_append_right _ (List.mem_append_right _ (List.mem_append_left _ (List.mem_of_getElem? (i := 40) (by rfl)))))), by rfl⟩
theorem wn_761 : Cond.methodLinkNest "BedsideNet" 304 ⟨"BedsideNet$Device", "leastChannelWith", "(I)I"⟩ "BedsideNet" ∈ tables_1 := List.mem_of_getElem? (i := 761) (by decide +kernel)
theorem wg_763 : Cond.instanceMethod ⟨"BedsideNet$Device", "leastChannelWith", "(I)I"⟩ ∈ wsG := List.mem_filter.mpr ⟨List.mem_append_right _ (List.mem_of_getElem? (i := 763) (by decide +kernel)), by decide +kernel⟩
theorem wg_764 : Cond.code ⟨"BedsideNet$Device", "leastChannelWith", "(I)I"⟩ prog_4_method_6_code 3 (Option.some FieldType.int) ∈ wsG := List.mem_filter.mpr ⟨List.mem_append_right _ (List.mem_append_right _ (List.mem_append_right _ (List.mem_append_right _ (List.mem_append_left _ (List.mem_of_getElem? (i := 44) (by rfl)))))), by rfl⟩
theorem wn_765 : Cond.methodLinkNest "BedsideNet" 307 ⟨"BedsideNet$Display", "attach", "(IIII)V"⟩ "BedsideNet" ∈ tables_1 := List.mem_of_getElem? (i := 765) (by decide +kernel)
theorem wg_767 : Cond.instanceMethod ⟨"BedsideNet$Display", "attach", "(IIII)V"⟩ ∈ wsG := List.mem_filter.mpr ⟨List.mem_append_right _ (List.mem_of_getElem? (i := 767) (by decide +kernel)), by decide +kernel⟩
theorem wg_768 : Cond.code ⟨"BedsideNet$Display", "attach", "(IIII)V"⟩ prog_5_method_2_code 5 (Option.none : Option FieldType) ∈ wsG := List.mem_filter.mpr ⟨List.mem_append_right _ (List.mem_append_right _ (List.mem_append_right _ (List.mem_append_right _ (List.mem_append_left _ (List.mem_of_getElem? (i := 48) (by rfl)))))), by rfl⟩
theorem wg_769 : Cond.methodLink "BedsideNetLaw" 110 ⟨"BedsideNetLaw", "shown", "(LBedsideNet;II[J)I"⟩ ∈ wsG := List.mem_filter.mpr ⟨List.mem_append_right _ (List.mem_of_getElem? (i := 769) (by decide +kernel)), by decide +kernel⟩
theorem wg_770 : Cond.static ⟨"BedsideNetLaw", "shown", "(LBedsideNet;II[J)I"⟩ ∈ wsG := List.mem_filter.mpr ⟨List.mem_append_right _ (List.mem_of_getElem? (i := 770) (by decide +kernel)), by decide +kernel⟩
theorem wg_772 : Cond.classLink "BedsideNetLaw" 28 "java/lang/IndexOutOfBoundsException" ∈ wsG := List.mem_filter.mpr ⟨List.mem_append_right _ (List.mem_of_getElem? (i := 772) (by decide +kernel)), by decide +kernel⟩
theorem wg_773 : Cond.classLink "BedsideNetLaw" 30 "java/util/NoSuchElementException" ∈ wsG := List.mem_filter.mpr ⟨List.mem_append_right _ (List.mem_of_getElem? (i := 773) (by decide +kernel)), by decide +kernel⟩
theorem wg_774 : Cond.methodLink "BedsideNetLaw" 25 ⟨"BedsideNet", "shown", "(II)I"⟩ ∈ wsG := List.mem_filter.mpr ⟨List.mem_append_right _ (List.mem_of_getElem? (i := 774) (by decide +kernel)), by decide +kernel⟩
theorem wg_775 : Cond.instanceMethod ⟨"BedsideNet", "shown", "(II)I"⟩ ∈ wsG := List.mem_filter.mpr ⟨List.mem_append_right _ (List.mem_of_getElem? (i := 775) (by decide +kernel)), by decide +kernel⟩
theorem wg_776 : Cond.selects "BedsideNet" ⟨"BedsideNet", "shown", "(II)I"⟩ ⟨"BedsideNet", "shown", "(II)I"⟩ ∈ wsG := List.mem_filter.mpr ⟨List.mem_append_right _ (List.mem_of_getElem? (i := 776) (by decide +kernel)), by decide +kernel⟩
theorem wg_777 : Cond.code ⟨"BedsideNet", "shown", "(II)I"⟩ prog_1_method_27_code 4 (Option.some FieldType.int) ∈ wsG := List.mem_filter.mpr ⟨List.mem_append_right _ (List.mem_append_right _ (List.mem_append_right _ (List.mem_append_right _ (List.mem_append_left _ (List.mem_of_getElem? (i := 57) (by rfl)))))), by rfl⟩
theorem wg_778 : Cond.classLink "BedsideNet" 208 "java/lang/IndexOutOfBoundsException" ∈ wsG := List.mem_filter.mpr ⟨List.mem_append_right _ (List.mem_of_getElem? (i := 778) (by decide +kernel)), by decide +kernel⟩
theorem wg_779 : Cond.instantiable "java/lang/IndexOutOfBoundsException" 6 ∈ wsG := List.mem_filter.mpr ⟨List.mem_append_right _ (List.mem_of_getElem? (i := 779) (by decide +kernel)), by decide +kernel⟩
theorem wn_780 : Cond.castable "java/lang/IndexOutOfBoundsException" "java/lang/IndexOutOfBoundsException" ∈ tables_1 := List.mem_of_getElem? (i := 780) (by decide +kernel)
theorem wg_781 : Cond.selects "java/lang/IndexOutOfBoundsException" ⟨"java/lang/Throwable", "fillInStackTrace", "(I)Ljava/lang/Throwable;"⟩ ⟨"java/lang/Throwable", "fillInStackTrace", "(I)Ljava/lang/Throwable;"⟩ ∈ wsG := List.mem_filter.mpr ⟨List.mem_append_right _ (List.mem_of_getElem? (i := 781) (by decide +kernel)), by decide +kernel⟩
theorem wg_782 : Cond.lays "java/lang/IndexOutOfBoundsException" "java/lang/Throwable" "cause" "Ljava/lang/Throwable;" ∈ wsG := List.mem_filter.mpr ⟨List.mem_append_right _ (List.mem_of_getElem? (i := 782) (by decide +kernel)), by decide +kernel⟩
theorem wg_783 : Cond.lays "java/lang/IndexOutOfBoundsException" "java/lang/Throwable" "stackTrace" "[Ljava/lang/StackTraceElement;" ∈ wsG := List.mem_filter.mpr ⟨List.mem_append_right _ (List.mem_of_getElem? (i := 783) (by decide +kernel)), by decide +kernel⟩
theorem wg_784 : Cond.lays "java/lang/IndexOutOfBoundsException" "java/lang/Throwable" "suppressedExceptions" "Ljava/util/List;" ∈ wsG := List.mem_filter.mpr ⟨List.mem_append_right _ (List.mem_of_getElem? (i := 784) (by decide +kernel)), by decide +kernel⟩
theorem wg_785 : Cond.lays "java/lang/IndexOutOfBoundsException" "java/lang/Throwable" "detailMessage" "Ljava/lang/String;" ∈ wsG := List.mem_filter.mpr ⟨List.mem_append_right _ (List.mem_of_getElem? (i := 785) (by decide +kernel)), by decide +kernel⟩
theorem wg_786 : Cond.lays "java/lang/IndexOutOfBoundsException" "java/lang/Throwable" "backtrace" "Ljava/lang/Object;" ∈ wsG := List.mem_filter.mpr ⟨List.mem_append_right _ (List.mem_of_getElem? (i := 786) (by decide +kernel)), by decide +kernel⟩
theorem wg_787 : Cond.methodLink "BedsideNet" 210 ⟨"java/lang/IndexOutOfBoundsException", "<init>", "()V"⟩ ∈ wsG := List.mem_filter.mpr ⟨List.mem_append_right _ (List.mem_of_getElem? (i := 787) (by decide +kernel)), by decide +kernel⟩
theorem wg_788 : Cond.instanceMethod ⟨"java/lang/IndexOutOfBoundsException", "<init>", "()V"⟩ ∈ wsG := List.mem_filter.mpr ⟨List.mem_append_right _ (List.mem_of_getElem? (i := 788) (by decide +kernel)), by decide +kernel⟩
theorem wg_789 : Cond.code ⟨"java/lang/IndexOutOfBoundsException", "<init>", "()V"⟩ prog_17_method_1_code 1 (Option.none : Option FieldType) ∈ wsG := List.mem_filter.mpr ⟨List.mem_append_right _ (List.mem_append_right _ (List.mem_append_right _ (List.mem_append_right _ (List.mem_append_left _ (List.mem_of_getElem? (i := 69) (by rfl)))))), by rfl⟩
theorem wg_790 : Cond.methodLink "java/lang/IndexOutOfBoundsException" 1 ⟨"java/lang/RuntimeException", "<init>", "()V"⟩ ∈ wsG := List.mem_filter.mpr ⟨List.mem_append_right _ (List.mem_of_getElem? (i := 790) (by decide +kernel)), by decide +kernel⟩
theorem wg_791 : Cond.lays "java/lang/IndexOutOfBoundsException" "java/lang/Throwable" "depth" "I" ∈ wsG := List.mem_filter.mpr ⟨List.mem_append_right _ (List.mem_of_getElem? (i := 791) (by decide +kernel)), by decide +kernel⟩
theorem wg_793 : Cond.classLink "BedsideNet" 205 "java/util/NoSuchElementException" ∈ wsG := List.mem_filter.mpr ⟨List.mem_append_right _ (List.mem_of_getElem? (i := 793) (by decide +kernel)), by decide +kernel⟩
theorem wg_794 : Cond.instantiable "java/util/NoSuchElementException" 6 ∈ wsG := List.mem_filter.mpr ⟨List.mem_append_right _ (List.mem_of_getElem? (i := 794) (by decide +kernel)), by decide +kernel⟩
theorem wn_795 : Cond.castable "java/util/NoSuchElementException" "java/util/NoSuchElementException" ∈ tables_1 := List.mem_of_getElem? (i := 795) (by decide +kernel)
theorem wg_796 : Cond.selects "java/util/NoSuchElementException" ⟨"java/lang/Throwable", "fillInStackTrace", "(I)Ljava/lang/Throwable;"⟩ ⟨"java/lang/Throwable", "fillInStackTrace", "(I)Ljava/lang/Throwable;"⟩ ∈ wsG := List.mem_filter.mpr ⟨List.mem_append_right _ (List.mem_of_getElem? (i := 796) (by decide +kernel)), by decide +kernel⟩
theorem wg_797 : Cond.lays "java/util/NoSuchElementException" "java/lang/Throwable" "cause" "Ljava/lang/Throwable;" ∈ wsG := List.mem_filter.mpr ⟨List.mem_append_right _ (List.mem_of_getElem? (i := 797) (by decide +kernel)), by decide +kernel⟩
theorem wg_798 : Cond.lays "java/util/NoSuchElementException" "java/lang/Throwable" "stackTrace" "[Ljava/lang/StackTraceElement;" ∈ wsG := List.mem_filter.mpr ⟨List.mem_append_right _ (List.mem_of_getElem? (i := 798) (by decide +kernel)), by decide +kernel⟩
theorem wg_799 : Cond.lays "java/util/NoSuchElementException" "java/lang/Throwable" "suppressedExceptions" "Ljava/util/List;" ∈ wsG := List.mem_filter.mpr ⟨List.mem_append_right _ (List.mem_of_getElem? (i := 799) (by decide +kernel)), by decide +kernel⟩
theorem wg_800 : Cond.lays "java/util/NoSuchElementException" "java/lang/Throwable" "detailMessage" "Ljava/lang/String;" ∈ wsG := List.mem_filter.mpr ⟨List.mem_append_right _ (List.mem_of_getElem? (i := 800) (by decide +kernel)), by decide +kernel⟩
theorem wg_801 : Cond.lays "java/util/NoSuchElementException" "java/lang/Throwable" "backtrace" "Ljava/lang/Object;" ∈ wsG := List.mem_filter.mpr ⟨List.mem_append_right _ (List.mem_of_getElem? (i := 801) (by decide +kernel)), by decide +kernel⟩
theorem wg_802 : Cond.methodLink "BedsideNet" 207 ⟨"java/util/NoSuchElementException", "<init>", "()V"⟩ ∈ wsG := List.mem_filter.mpr ⟨List.mem_append_right _ (List.mem_of_getElem? (i := 802) (by decide +kernel)), by decide +kernel⟩
theorem wg_803 : Cond.instanceMethod ⟨"java/util/NoSuchElementException", "<init>", "()V"⟩ ∈ wsG := List.mem_filter.mpr ⟨List.mem_append_right _ (List.mem_of_getElem? (i := 803) (by decide +kernel)), by decide +kernel⟩
theorem wg_804 : Cond.code ⟨"java/util/NoSuchElementException", "<init>", "()V"⟩ prog_21_method_1_code 1 (Option.none : Option FieldType) ∈ wsG := List.mem_filter.mpr ⟨List.mem_append_right _ (List.mem_append_right _ (List.mem_append_right _ (List.mem_append_right _ (List.mem_append_left _ (List.mem_of_getElem? (i := 84) (by rfl)))))), by rfl⟩
theorem wg_805 : Cond.methodLink "java/util/NoSuchElementException" 1 ⟨"java/lang/RuntimeException", "<init>", "()V"⟩ ∈ wsG := List.mem_filter.mpr ⟨List.mem_append_right _ (List.mem_of_getElem? (i := 805) (by decide +kernel)), by decide +kernel⟩
theorem wg_806 : Cond.lays "java/util/NoSuchElementException" "java/lang/Throwable" "depth" "I" ∈ wsG := List.mem_filter.mpr ⟨List.mem_append_right _ (List.mem_of_getElem? (i := 806) (by decide +kernel)), by decide +kernel⟩
theorem wg_808 : Cond.methodLink "BedsideNetLaw" 125 ⟨"BedsideNetLaw", "order", "(LBedsideNet;IIII[J)I"⟩ ∈ wsG := List.mem_filter.mpr ⟨List.mem_append_right _ (List.mem_of_getElem? (i := 808) (by decide +kernel)), by decide +kernel⟩
theorem wg_809 : Cond.static ⟨"BedsideNetLaw", "order", "(LBedsideNet;IIII[J)I"⟩ ∈ wsG := List.mem_filter.mpr ⟨List.mem_append_right _ (List.mem_of_getElem? (i := 809) (by decide +kernel)), by decide +kernel⟩
theorem wg_811 : Cond.methodLink "BedsideNetLaw" 32 ⟨"BedsideNet", "order", "(IIII)I"⟩ ∈ wsG := List.mem_filter.mpr ⟨List.mem_append_right _ (List.mem_of_getElem? (i := 811) (by decide +kernel)), by decide +kernel⟩
theorem wg_812 : Cond.instanceMethod ⟨"BedsideNet", "order", "(IIII)I"⟩ ∈ wsG := List.mem_filter.mpr ⟨List.mem_append_right _ (List.mem_of_getElem? (i := 812) (by decide +kernel)), by decide +kernel⟩
theorem wg_813 : Cond.selects "BedsideNet" ⟨"BedsideNet", "order", "(IIII)I"⟩ ⟨"BedsideNet", "order", "(IIII)I"⟩ ∈ wsG := List.mem_filter.mpr ⟨List.mem_append_right _ (List.mem_of_getElem? (i := 813) (by decide +kernel)), by decide +kernel⟩
theorem wg_814 : Cond.code ⟨"BedsideNet", "order", "(IIII)I"⟩ prog_1_method_32_code 6 (Option.some FieldType.int) ∈ wsG := List.mem_filter.mpr ⟨List.mem_append_right _ (List.mem_append_right _ (List.mem_append_right _ (List.mem_append_right _ (List.mem_append_left _ (List.mem_of_getElem? (i := 94) (by rfl)))))), by rfl⟩
theorem wn_815 : Cond.methodLinkNest "BedsideNet" 344 ⟨"BedsideNet$Order", "write", "(III)V"⟩ "BedsideNet" ∈ tables_1 := List.mem_of_getElem? (i := 815) (by decide +kernel)
theorem wg_817 : Cond.instanceMethod ⟨"BedsideNet$Order", "write", "(III)V"⟩ ∈ wsG := List.mem_filter.mpr ⟨List.mem_append_right _ (List.mem_of_getElem? (i := 817) (by decide +kernel)), by decide +kernel⟩
theorem wg_818 : Cond.code ⟨"BedsideNet$Order", "write", "(III)V"⟩ prog_8_method_2_code 4 (Option.none : Option FieldType) ∈ wsG := List.mem_filter.mpr ⟨List.mem_append_right _ (List.mem_append_right _ (List.mem_append_right _ (List.mem_append_right _ (List.mem_append_left _ (List.mem_of_getElem? (i := 98) (by rfl)))))), by rfl⟩
theorem wg_819 : Cond.methodLink "BedsideNetLaw" 138 ⟨"BedsideNetLaw", "look", "(LBedsideNet;II[J)I"⟩ ∈ wsG := List.mem_filter.mpr ⟨List.mem_append_right _ (List.mem_of_getElem? (i := 819) (by decide +kernel)), by decide +kernel⟩
theorem wg_820 : Cond.static ⟨"BedsideNetLaw", "look", "(LBedsideNet;II[J)I"⟩ ∈ wsG := List.mem_filter.mpr ⟨List.mem_append_right _ (List.mem_of_getElem? (i := 820) (by decide +kernel)), by decide +kernel⟩
theorem wg_822 : Cond.methodLink "BedsideNetLaw" 36 ⟨"BedsideNet", "look", "(II)I"⟩ ∈ wsG := List.mem_filter.mpr ⟨List.mem_append_right _ (List.mem_of_getElem? (i := 822) (by decide +kernel)), by decide +kernel⟩
theorem wg_823 : Cond.instanceMethod ⟨"BedsideNet", "look", "(II)I"⟩ ∈ wsG := List.mem_filter.mpr ⟨List.mem_append_right _ (List.mem_of_getElem? (i := 823) (by decide +kernel)), by decide +kernel⟩
theorem wg_824 : Cond.selects "BedsideNet" ⟨"BedsideNet", "look", "(II)I"⟩ ⟨"BedsideNet", "look", "(II)I"⟩ ∈ wsG := List.mem_filter.mpr ⟨List.mem_append_right _ (List.mem_of_getElem? (i := 824) (by decide +kernel)), by decide +kernel⟩
theorem wg_825 : Cond.code ⟨"BedsideNet", "look", "(II)I"⟩ prog_1_method_35_code 5 (Option.some FieldType.int) ∈ wsG := List.mem_filter.mpr ⟨List.mem_append_right _ (List.mem_append_right _ (List.mem_append_right _ (List.mem_append_right _ (List.mem_append_left _ (List.mem_of_getElem? (i := 105) (by rfl)))))), by rfl⟩
theorem wg_826 : Cond.methodLink "BedsideNet" 350 ⟨"BedsideNet", "deviceFact", "(LBedsideNet$Device;I)I"⟩ ∈ wsG := List.mem_filter.mpr ⟨List.mem_append_right _ (List.mem_of_getElem? (i := 826) (by decide +kernel)), by decide +kernel⟩
theorem wg_828 : Cond.instanceMethod ⟨"BedsideNet", "deviceFact", "(LBedsideNet$Device;I)I"⟩ ∈ wsG := List.mem_filter.mpr ⟨List.mem_append_right _ (List.mem_of_getElem? (i := 828) (by decide +kernel)), by decide +kernel⟩
theorem wg_829 : Cond.code ⟨"BedsideNet", "deviceFact", "(LBedsideNet$Device;I)I"⟩ prog_1_method_36_code 3 (Option.some FieldType.int) ∈ wsG := List.mem_filter.mpr ⟨List.mem_append_right _ (List.mem_append_right _ (List.mem_append_right _ (List.mem_append_right _ (List.mem_append_left _ (List.mem_of_getElem? (i := 109) (by rfl)))))), by rfl⟩
theorem wn_830 : Cond.methodLinkNest "BedsideNet" 358 ⟨"BedsideNet$Device", "soundsAt", "(I)Z"⟩ "BedsideNet" ∈ tables_1 := List.mem_of_getElem? (i := 830) (by decide +kernel)
theorem wg_832 : Cond.instanceMethod ⟨"BedsideNet$Device", "soundsAt", "(I)Z"⟩ ∈ wsG := List.mem_filter.mpr ⟨List.mem_append_right _ (List.mem_of_getElem? (i := 832) (by decide +kernel)), by decide +kernel⟩
theorem wg_833 : Cond.code ⟨"BedsideNet$Device", "soundsAt", "(I)Z"⟩ prog_4_method_7_code 3 (Option.some FieldType.boolean) ∈ wsG := List.mem_filter.mpr ⟨List.mem_append_right _ (List.mem_append_right _ (List.mem_append_right _ (List.mem_append_right _ (List.mem_append_left _ (List.mem_of_getElem? (i := 113) (by rfl)))))), by rfl⟩
theorem wn_834 : Cond.methodLinkNest "BedsideNet$Device" 71 ⟨"BedsideNet$Alarm", "isLoud", "()Z"⟩ "BedsideNet" ∈ tables_1 := List.mem_of_getElem? (i := 834) (by decide +kernel)
theorem wg_836 : Cond.instanceMethod ⟨"BedsideNet$Alarm", "isLoud", "()Z"⟩ ∈ wsG := List.mem_filter.mpr ⟨List.mem_append_right _ (List.mem_of_getElem? (i := 836) (by decide +kernel)), by decide +kernel⟩
theorem wg_837 : Cond.code ⟨"BedsideNet$Alarm", "isLoud", "()Z"⟩ prog_2_method_7_code 1 (Option.some FieldType.boolean) ∈ wsG := List.mem_filter.mpr ⟨List.mem_append_right _ (List.mem_append_right _ (List.mem_append_right _ (List.mem_append_right _ (List.mem_append_left _ (List.mem_of_getElem? (i := 117) (by rfl)))))), by rfl⟩
theorem wg_838 : Cond.methodLink "BedsideNet" 354 ⟨"BedsideNet", "channelFact", "(LBedsideNet$Channel;I)I"⟩ ∈ wsG := List.mem_filter.mpr ⟨List.mem_append_right _ (List.mem_of_getElem? (i := 838) (by decide +kernel)), by decide +kernel⟩
theorem wg_840 : Cond.instanceMethod ⟨"BedsideNet", "channelFact", "(LBedsideNet$Channel;I)I"⟩ ∈ wsG := List.mem_filter.mpr ⟨List.mem_append_right _ (List.mem_of_getElem? (i := 840) (by decide +kernel)), by decide +kernel⟩
theorem wg_841 : Cond.code ⟨"BedsideNet", "channelFact", "(LBedsideNet$Channel;I)I"⟩ prog_1_method_37_code 3 (Option.some FieldType.int) ∈ wsG := List.mem_filter.mpr ⟨List.mem_append_right _ (List.mem_append_right _ (List.mem_append_right _ (List.mem_append_right _ (List.mem_append_left _ (List.mem_of_getElem? (i := 121) (by rfl)))))), by rfl⟩
theorem wn_842 : Cond.methodLinkNest "BedsideNet" 362 ⟨"BedsideNet$Alarm", "standing", "()I"⟩ "BedsideNet" ∈ tables_1 := List.mem_of_getElem? (i := 842) (by decide +kernel)
theorem wg_844 : Cond.instanceMethod ⟨"BedsideNet$Alarm", "standing", "()I"⟩ ∈ wsG := List.mem_filter.mpr ⟨List.mem_append_right _ (List.mem_of_getElem? (i := 844) (by decide +kernel)), by decide +kernel⟩
theorem wg_845 : Cond.code ⟨"BedsideNet$Alarm", "standing", "()I"⟩ prog_2_method_8_code 1 (Option.some FieldType.int) ∈ wsG := List.mem_filter.mpr ⟨List.mem_append_right _ (List.mem_append_right _ (List.mem_append_right _ (List.mem_append_right _ (List.mem_append_left _ (List.mem_of_getElem? (i := 125) (by rfl)))))), by rfl⟩
theorem wn_846 : Cond.methodLinkNest "BedsideNet" 366 ⟨"BedsideNet$Alarm", "levelAt", "(I)I"⟩ "BedsideNet" ∈ tables_1 := List.mem_of_getElem? (i := 846) (by decide +kernel)
theorem wg_848 : Cond.instanceMethod ⟨"BedsideNet$Alarm", "levelAt", "(I)I"⟩ ∈ wsG := List.mem_filter.mpr ⟨List.mem_append_right _ (List.mem_of_getElem? (i := 848) (by decide +kernel)), by decide +kernel⟩
theorem wg_849 : Cond.code ⟨"BedsideNet$Alarm", "levelAt", "(I)I"⟩ prog_2_method_9_code 4 (Option.some FieldType.int) ∈ wsG := List.mem_filter.mpr ⟨List.mem_append_right _ (List.mem_append_right _ (List.mem_append_right _ (List.mem_append_right _ (List.mem_append_left _ (List.mem_of_getElem? (i := 129) (by rfl)))))), by rfl⟩
theorem wg_850 : Cond.methodLink "BedsideNet$Alarm" 49 ⟨"BedsideNet$Alarm", "isLoud", "()Z"⟩ ∈ wsG := List.mem_filter.mpr ⟨List.mem_append_right _ (List.mem_of_getElem? (i := 850) (by decide +kernel)), by decide +kernel⟩
theorem wn_851 : Cond.methodLinkNest "BedsideNet" 372 ⟨"BedsideNet$Known", "standing", "()I"⟩ "BedsideNet" ∈ tables_1 := List.mem_of_getElem? (i := 851) (by decide +kernel)
theorem wg_853 : Cond.instanceMethod ⟨"BedsideNet$Known", "standing", "()I"⟩ ∈ wsG := List.mem_filter.mpr ⟨List.mem_append_right _ (List.mem_of_getElem? (i := 853) (by decide +kernel)), by decide +kernel⟩
theorem wg_854 : Cond.code ⟨"BedsideNet$Known", "standing", "()I"⟩ prog_6_method_4_code 1 (Option.some FieldType.int) ∈ wsG := List.mem_filter.mpr ⟨List.mem_append_right _ (List.mem_append_right _ (List.mem_append_right _ (List.mem_append_right _ (List.mem_append_left _ (List.mem_of_getElem? (i := 134) (by rfl)))))), by rfl⟩
theorem wg_855 : Cond.methodLink "BedsideNetLaw" 141 ⟨"BedsideNetLaw", "message", "(LBedsideNet;II[J)I"⟩ ∈ wsG := List.mem_filter.mpr ⟨List.mem_append_right _ (List.mem_of_getElem? (i := 855) (by decide +kernel)), by decide +kernel⟩
theorem wg_856 : Cond.static ⟨"BedsideNetLaw", "message", "(LBedsideNet;II[J)I"⟩ ∈ wsG := List.mem_filter.mpr ⟨List.mem_append_right _ (List.mem_of_getElem? (i := 856) (by decide +kernel)), by decide +kernel⟩
theorem wg_858 : Cond.methodLink "BedsideNetLaw" 39 ⟨"BedsideNet", "message", "(II)I"⟩ ∈ wsG := List.mem_filter.mpr ⟨List.mem_append_right _ (List.mem_of_getElem? (i := 858) (by decide +kernel)), by decide +kernel⟩
theorem wg_859 : Cond.instanceMethod ⟨"BedsideNet", "message", "(II)I"⟩ ∈ wsG := List.mem_filter.mpr ⟨List.mem_append_right _ (List.mem_of_getElem? (i := 859) (by decide +kernel)), by decide +kernel⟩
theorem wg_860 : Cond.selects "BedsideNet" ⟨"BedsideNet", "message", "(II)I"⟩ ⟨"BedsideNet", "message", "(II)I"⟩ ∈ wsG := List.mem_filter.mpr ⟨List.mem_append_right _ (List.mem_of_getElem? (i := 860) (by decide +kernel)), by decide +kernel⟩
theorem wg_861 : Cond.code ⟨"BedsideNet", "message", "(II)I"⟩ prog_1_method_17_code 4 (Option.some FieldType.int) ∈ wsG := List.mem_filter.mpr ⟨List.mem_append_right _ (List.mem_append_right _ (List.mem_append_right _ (List.mem_append_right _ (List.mem_append_left _ (List.mem_of_getElem? (i := 141) (by rfl)))))), by rfl⟩
theorem wn_862 : Cond.methodLinkNest "BedsideNet" 211 ⟨"BedsideNet$Message", "fact", "(I)I"⟩ "BedsideNet" ∈ tables_1 := List.mem_of_getElem? (i := 862) (by decide +kernel)
theorem wg_864 : Cond.instanceMethod ⟨"BedsideNet$Message", "fact", "(I)I"⟩ ∈ wsG := List.mem_filter.mpr ⟨List.mem_append_right _ (List.mem_of_getElem? (i := 864) (by decide +kernel)), by decide +kernel⟩
theorem wg_865 : Cond.code ⟨"BedsideNet$Message", "fact", "(I)I"⟩ prog_7_method_3_code 2 (Option.some FieldType.int) ∈ wsG := List.mem_filter.mpr ⟨List.mem_append_right _ (List.mem_append_right _ (List.mem_append_right _ (List.mem_append_right _ (List.mem_append_left _ (List.mem_of_getElem? (i := 145) (by rfl)))))), by rfl⟩
theorem wg_866 : Cond.classLink "BedsideNetLaw" 43 "BedsideNetModel" ∈ wsG := List.mem_filter.mpr ⟨List.mem_append_right _ (List.mem_of_getElem? (i := 866) (by decide +kernel)), by decide +kernel⟩
theorem wg_867 : Cond.instantiable "BedsideNetModel" 62 ∈ wsG := List.mem_filter.mpr ⟨List.mem_append_right _ (List.mem_of_getElem? (i := 867) (by decide +kernel)), by decide +kernel⟩
theorem wg_868 : Cond.methodLink "BedsideNetLaw" 45 ⟨"BedsideNetModel", "<init>", "()V"⟩ ∈ wsG := List.mem_filter.mpr ⟨List.mem_append_right _ (List.mem_of_getElem? (i := 868) (by decide +kernel)), by decide +kernel⟩
theorem wg_869 : Cond.instanceMethod ⟨"BedsideNetModel", "<init>", "()V"⟩ ∈ wsG := List.mem_filter.mpr ⟨List.mem_append_right _ (List.mem_of_getElem? (i := 869) (by decide +kernel)), by decide +kernel⟩
theorem wg_870 : Cond.code ⟨"BedsideNetModel", "<init>", "()V"⟩ prog_13_method_1_code 2 (Option.none : Option FieldType) ∈ wsG := List.mem_filter.mpr ⟨List.mem_append_right _ (List.mem_append_right _ (List.mem_append_right _ (List.mem_append_right _ (List.mem_append_left _ (List.mem_of_getElem? (i := 150) (by rfl)))))), by rfl⟩
theorem wg_871 : Cond.methodLink "BedsideNetModel" 1 ⟨"java/lang/Object", "<init>", "()V"⟩ ∈ wsG := List.mem_filter.mpr ⟨List.mem_append_right _ (List.mem_of_getElem? (i := 871) (by decide +kernel)), by decide +kernel⟩
theorem wg_872 : Cond.methodLink "BedsideNetModel" 176 ⟨"BedsideNetModel", "forget", "(I)V"⟩ ∈ wsG := List.mem_filter.mpr ⟨List.mem_append_right _ (List.mem_of_getElem? (i := 872) (by decide +kernel)), by decide +kernel⟩
theorem wg_874 : Cond.instanceMethod ⟨"BedsideNetModel", "forget", "(I)V"⟩ ∈ wsG := List.mem_filter.mpr ⟨List.mem_append_right _ (List.mem_of_getElem? (i := 874) (by decide +kernel)), by decide +kernel⟩
theorem wg_875 : Cond.code ⟨"BedsideNetModel", "forget", "(I)V"⟩ prog_13_method_10_code 3 (Option.none : Option FieldType) ∈ wsG := List.mem_filter.mpr ⟨List.mem_append_right _ (List.mem_append_right _ (List.mem_append_right _ (List.mem_append_right _ (List.mem_append_left _ (List.mem_of_getElem? (i := 155) (by rfl)))))), by rfl⟩
theorem wg_876 : Cond.constant "BedsideNetModel" 180 (-1000000000) ∈ wsG := List.mem_filter.mpr ⟨List.mem_append_right _ (List.mem_of_getElem? (i := 876) (by decide +kernel)), by decide +kernel⟩
theorem wg_877 : Cond.fieldLink "BedsideNetModel" 181 "BedsideNetModel" "thrown" "I" ∈ wsG := List.mem_filter.mpr ⟨List.mem_append_right _ (List.mem_of_getElem? (i := 877) (by decide +kernel)), by decide +kernel⟩
theorem wg_878 : Cond.fieldLink "BedsideNetModel" 223 "BedsideNetModel" "now" "I" ∈ wsG := List.mem_filter.mpr ⟨List.mem_append_right _ (List.mem_of_getElem? (i := 878) (by decide +kernel)), by decide +kernel⟩
theorem wg_879 : Cond.fieldLink "BedsideNetModel" 217 "BedsideNetModel" "sent" "I" ∈ wsG := List.mem_filter.mpr ⟨List.mem_append_right _ (List.mem_of_getElem? (i := 879) (by decide +kernel)), by decide +kernel⟩
theorem wg_880 : Cond.fieldLink "BedsideNetModel" 220 "BedsideNetModel" "lost" "I" ∈ wsG := List.mem_filter.mpr ⟨List.mem_append_right _ (List.mem_of_getElem? (i := 880) (by decide +kernel)), by decide +kernel⟩
theorem wg_881 : Cond.fieldLink "BedsideNetModel" 7 "BedsideNetModel" "patients" "[I" ∈ wsG := List.mem_filter.mpr ⟨List.mem_append_right _ (List.mem_of_getElem? (i := 881) (by decide +kernel)), by decide +kernel⟩
theorem wg_882 : Cond.fieldLink "BedsideNetModel" 13 "BedsideNetModel" "stage" "[I" ∈ wsG := List.mem_filter.mpr ⟨List.mem_append_right _ (List.mem_of_getElem? (i := 882) (by decide +kernel)), by decide +kernel⟩
theorem wg_883 : Cond.fieldLink "BedsideNetModel" 16 "BedsideNetModel" "bed" "[I" ∈ wsG := List.mem_filter.mpr ⟨List.mem_append_right _ (List.mem_of_getElem? (i := 883) (by decide +kernel)), by decide +kernel⟩
theorem wg_884 : Cond.fieldLink "BedsideNetModel" 19 "BedsideNetModel" "life" "[I" ∈ wsG := List.mem_filter.mpr ⟨List.mem_append_right _ (List.mem_of_getElem? (i := 884) (by decide +kernel)), by decide +kernel⟩
theorem wg_885 : Cond.fieldLink "BedsideNetModel" 22 "BedsideNetModel" "channels" "[I" ∈ wsG := List.mem_filter.mpr ⟨List.mem_append_right _ (List.mem_of_getElem? (i := 885) (by decide +kernel)), by decide +kernel⟩
theorem wg_886 : Cond.fieldLink "BedsideNetModel" 25 "BedsideNetModel" "tied" "[I" ∈ wsG := List.mem_filter.mpr ⟨List.mem_append_right _ (List.mem_of_getElem? (i := 886) (by decide +kernel)), by decide +kernel⟩
theorem wg_887 : Cond.fieldLink "BedsideNetModel" 28 "BedsideNetModel" "remote" "[Z" ∈ wsG := List.mem_filter.mpr ⟨List.mem_append_right _ (List.mem_of_getElem? (i := 887) (by decide +kernel)), by decide +kernel⟩
theorem wg_888 : Cond.fieldLink "BedsideNetModel" 32 "BedsideNetModel" "hasSet" "[Z" ∈ wsG := List.mem_filter.mpr ⟨List.mem_append_right _ (List.mem_of_getElem? (i := 888) (by decide +kernel)), by decide +kernel⟩
theorem wg_889 : Cond.fieldLink "BedsideNetModel" 35 "BedsideNetModel" "setLow" "[I" ∈ wsG := List.mem_filter.mpr ⟨List.mem_append_right _ (List.mem_of_getElem? (i := 889) (by decide +kernel)), by decide +kernel⟩
theorem wg_890 : Cond.fieldLink "BedsideNetModel" 38 "BedsideNetModel" "setHigh" "[I" ∈ wsG := List.mem_filter.mpr ⟨List.mem_append_right _ (List.mem_of_getElem? (i := 890) (by decide +kernel)), by decide +kernel⟩
theorem wg_891 : Cond.fieldLink "BedsideNetModel" 41 "BedsideNetModel" "setStep" "[I" ∈ wsG := List.mem_filter.mpr ⟨List.mem_append_right _ (List.mem_of_getElem? (i := 891) (by decide +kernel)), by decide +kernel⟩
theorem wg_892 : Cond.fieldLink "BedsideNetModel" 44 "BedsideNetModel" "setValue" "[I" ∈ wsG := List.mem_filter.mpr ⟨List.mem_append_right _ (List.mem_of_getElem? (i := 892) (by decide +kernel)), by decide +kernel⟩
theorem wg_893 : Cond.fieldLink "BedsideNetModel" 47 "BedsideNetModel" "leaseOf" "[I" ∈ wsG := List.mem_filter.mpr ⟨List.mem_append_right _ (List.mem_of_getElem? (i := 893) (by decide +kernel)), by decide +kernel⟩
theorem wg_894 : Cond.fieldLink "BedsideNetModel" 50 "BedsideNetModel" "leaseAt" "[I" ∈ wsG := List.mem_filter.mpr ⟨List.mem_append_right _ (List.mem_of_getElem? (i := 894) (by decide +kernel)), by decide +kernel⟩
theorem wg_895 : Cond.fieldLink "BedsideNetModel" 53 "BedsideNetModel" "heardSounds" "[I" ∈ wsG := List.mem_filter.mpr ⟨List.mem_append_right _ (List.mem_of_getElem? (i := 895) (by decide +kernel)), by decide +kernel⟩
theorem wg_896 : Cond.fieldLink "BedsideNetModel" 56 "BedsideNetModel" "unit" "[I" ∈ wsG := List.mem_filter.mpr ⟨List.mem_append_right _ (List.mem_of_getElem? (i := 896) (by decide +kernel)), by decide +kernel⟩
theorem wg_897 : Cond.fieldLink "BedsideNetModel" 59 "BedsideNetModel" "low" "[I" ∈ wsG := List.mem_filter.mpr ⟨List.mem_append_right _ (List.mem_of_getElem? (i := 897) (by decide +kernel)), by decide +kernel⟩
theorem wg_898 : Cond.fieldLink "BedsideNetModel" 62 "BedsideNetModel" "high" "[I" ∈ wsG := List.mem_filter.mpr ⟨List.mem_append_right _ (List.mem_of_getElem? (i := 898) (by decide +kernel)), by decide +kernel⟩
theorem wg_899 : Cond.fieldLink "BedsideNetModel" 65 "BedsideNetModel" "step" "[I" ∈ wsG := List.mem_filter.mpr ⟨List.mem_append_right _ (List.mem_of_getElem? (i := 899) (by decide +kernel)), by decide +kernel⟩
theorem wg_900 : Cond.fieldLink "BedsideNetModel" 68 "BedsideNetModel" "priority" "[I" ∈ wsG := List.mem_filter.mpr ⟨List.mem_append_right _ (List.mem_of_getElem? (i := 900) (by decide +kernel)), by decide +kernel⟩
theorem wg_901 : Cond.fieldLink "BedsideNetModel" 71 "BedsideNetModel" "limit" "[I" ∈ wsG := List.mem_filter.mpr ⟨List.mem_append_right _ (List.mem_of_getElem? (i := 901) (by decide +kernel)), by decide +kernel⟩
theorem wg_902 : Cond.fieldLink "BedsideNetModel" 74 "BedsideNetModel" "delay" "[I" ∈ wsG := List.mem_filter.mpr ⟨List.mem_append_right _ (List.mem_of_getElem? (i := 902) (by decide +kernel)), by decide +kernel⟩
theorem wg_903 : Cond.fieldLink "BedsideNetModel" 77 "BedsideNetModel" "hasValue" "[Z" ∈ wsG := List.mem_filter.mpr ⟨List.mem_append_right _ (List.mem_of_getElem? (i := 903) (by decide +kernel)), by decide +kernel⟩
theorem wg_904 : Cond.fieldLink "BedsideNetModel" 80 "BedsideNetModel" "ofTie" "[Z" ∈ wsG := List.mem_filter.mpr ⟨List.mem_append_right _ (List.mem_of_getElem? (i := 904) (by decide +kernel)), by decide +kernel⟩
theorem wg_905 : Cond.fieldLink "BedsideNetModel" 83 "BedsideNetModel" "value" "[I" ∈ wsG := List.mem_filter.mpr ⟨List.mem_append_right _ (List.mem_of_getElem? (i := 905) (by decide +kernel)), by decide +kernel⟩
theorem wg_906 : Cond.fieldLink "BedsideNetModel" 86 "BedsideNetModel" "measured" "[I" ∈ wsG := List.mem_filter.mpr ⟨List.mem_append_right _ (List.mem_of_getElem? (i := 906) (by decide +kernel)), by decide +kernel⟩
theorem wg_907 : Cond.fieldLink "BedsideNetModel" 89 "BedsideNetModel" "valueSent" "[I" ∈ wsG := List.mem_filter.mpr ⟨List.mem_append_right _ (List.mem_of_getElem? (i := 907) (by decide +kernel)), by decide +kernel⟩
theorem wg_908 : Cond.fieldLink "BedsideNetModel" 92 "BedsideNetModel" "above" "[I" ∈ wsG := List.mem_filter.mpr ⟨List.mem_append_right _ (List.mem_of_getElem? (i := 908) (by decide +kernel)), by decide +kernel⟩
theorem wg_909 : Cond.fieldLink "BedsideNetModel" 95 "BedsideNetModel" "quietTill" "[I" ∈ wsG := List.mem_filter.mpr ⟨List.mem_append_right _ (List.mem_of_getElem? (i := 909) (by decide +kernel)), by decide +kernel⟩
theorem wg_910 : Cond.fieldLink "BedsideNetModel" 98 "BedsideNetModel" "on" "[Z" ∈ wsG := List.mem_filter.mpr ⟨List.mem_append_right _ (List.mem_of_getElem? (i := 910) (by decide +kernel)), by decide +kernel⟩
theorem wg_911 : Cond.fieldLink "BedsideNetModel" 101 "BedsideNetModel" "acknowledged" "[Z" ∈ wsG := List.mem_filter.mpr ⟨List.mem_append_right _ (List.mem_of_getElem? (i := 911) (by decide +kernel)), by decide +kernel⟩
theorem wg_912 : Cond.fieldLink "BedsideNetModel" 104 "BedsideNetModel" "began" "[I" ∈ wsG := List.mem_filter.mpr ⟨List.mem_append_right _ (List.mem_of_getElem? (i := 912) (by decide +kernel)), by decide +kernel⟩
theorem wg_913 : Cond.fieldLink "BedsideNetModel" 107 "BedsideNetModel" "known" "[I" ∈ wsG := List.mem_filter.mpr ⟨List.mem_append_right _ (List.mem_of_getElem? (i := 913) (by decide +kernel)), by decide +kernel⟩
theorem wg_914 : Cond.fieldLink "BedsideNetModel" 110 "BedsideNetModel" "knownBy" "[I" ∈ wsG := List.mem_filter.mpr ⟨List.mem_append_right _ (List.mem_of_getElem? (i := 914) (by decide +kernel)), by decide +kernel⟩
theorem wg_915 : Cond.fieldLink "BedsideNetModel" 113 "BedsideNetModel" "toldSounds" "[I" ∈ wsG := List.mem_filter.mpr ⟨List.mem_append_right _ (List.mem_of_getElem? (i := 915) (by decide +kernel)), by decide +kernel⟩
theorem wg_916 : Cond.fieldLink "BedsideNetModel" 214 "BedsideNetModel" "pending" "I" ∈ wsG := List.mem_filter.mpr ⟨List.mem_append_right _ (List.mem_of_getElem? (i := 916) (by decide +kernel)), by decide +kernel⟩
theorem wg_917 : Cond.fieldLink "BedsideNetModel" 116 "BedsideNetModel" "number" "[I" ∈ wsG := List.mem_filter.mpr ⟨List.mem_append_right _ (List.mem_of_getElem? (i := 917) (by decide +kernel)), by decide +kernel⟩
theorem wg_918 : Cond.fieldLink "BedsideNetModel" 119 "BedsideNetModel" "kind" "[I" ∈ wsG := List.mem_filter.mpr ⟨List.mem_append_right _ (List.mem_of_getElem? (i := 918) (by decide +kernel)), by decide +kernel⟩
theorem wg_919 : Cond.fieldLink "BedsideNetModel" 122 "BedsideNetModel" "of" "[I" ∈ wsG := List.mem_filter.mpr ⟨List.mem_append_right _ (List.mem_of_getElem? (i := 919) (by decide +kernel)), by decide +kernel⟩
theorem wg_920 : Cond.fieldLink "BedsideNetModel" 125 "BedsideNetModel" "which" "[I" ∈ wsG := List.mem_filter.mpr ⟨List.mem_append_right _ (List.mem_of_getElem? (i := 920) (by decide +kernel)), by decide +kernel⟩
theorem wg_921 : Cond.fieldLink "BedsideNetModel" 128 "BedsideNetModel" "sentLife" "[I" ∈ wsG := List.mem_filter.mpr ⟨List.mem_append_right _ (List.mem_of_getElem? (i := 921) (by decide +kernel)), by decide +kernel⟩
theorem wg_922 : Cond.fieldLink "BedsideNetModel" 131 "BedsideNetModel" "content" "[I" ∈ wsG := List.mem_filter.mpr ⟨List.mem_append_right _ (List.mem_of_getElem? (i := 922) (by decide +kernel)), by decide +kernel⟩
theorem wg_923 : Cond.fieldLink "BedsideNetModel" 134 "BedsideNetModel" "when" "[I" ∈ wsG := List.mem_filter.mpr ⟨List.mem_append_right _ (List.mem_of_getElem? (i := 923) (by decide +kernel)), by decide +kernel⟩
theorem wg_924 : Cond.fieldLink "BedsideNetModel" 137 "BedsideNetModel" "whose" "[I" ∈ wsG := List.mem_filter.mpr ⟨List.mem_append_right _ (List.mem_of_getElem? (i := 924) (by decide +kernel)), by decide +kernel⟩
theorem wg_925 : Cond.fieldLink "BedsideNetModel" 255 "BedsideNetModel" "handles" "I" ∈ wsG := List.mem_filter.mpr ⟨List.mem_append_right _ (List.mem_of_getElem? (i := 925) (by decide +kernel)), by decide +kernel⟩
theorem wg_926 : Cond.fieldLink "BedsideNetModel" 140 "BedsideNetModel" "handleChannel" "[I" ∈ wsG := List.mem_filter.mpr ⟨List.mem_append_right _ (List.mem_of_getElem? (i := 926) (by decide +kernel)), by decide +kernel⟩
theorem wg_927 : Cond.fieldLink "BedsideNetModel" 143 "BedsideNetModel" "handleLife" "[I" ∈ wsG := List.mem_filter.mpr ⟨List.mem_append_right _ (List.mem_of_getElem? (i := 927) (by decide +kernel)), by decide +kernel⟩
theorem wg_928 : Cond.fieldLink "BedsideNetModel" 146 "BedsideNetModel" "handlePatient" "[I" ∈ wsG := List.mem_filter.mpr ⟨List.mem_append_right _ (List.mem_of_getElem? (i := 928) (by decide +kernel)), by decide +kernel⟩
theorem wg_929 : Cond.fieldLink "BedsideNetModel" 149 "BedsideNetModel" "handleBy" "[I" ∈ wsG := List.mem_filter.mpr ⟨List.mem_append_right _ (List.mem_of_getElem? (i := 929) (by decide +kernel)), by decide +kernel⟩
theorem wg_930 : Cond.fieldLink "BedsideNetModel" 152 "BedsideNetModel" "handleValue" "[I" ∈ wsG := List.mem_filter.mpr ⟨List.mem_append_right _ (List.mem_of_getElem? (i := 930) (by decide +kernel)), by decide +kernel⟩
theorem wg_931 : Cond.fieldLink "BedsideNetModel" 155 "BedsideNetModel" "handleMeasured" "[I" ∈ wsG := List.mem_filter.mpr ⟨List.mem_append_right _ (List.mem_of_getElem? (i := 931) (by decide +kernel)), by decide +kernel⟩
theorem wg_932 : Cond.fieldLink "BedsideNetModel" 158 "BedsideNetModel" "handleHeard" "[I" ∈ wsG := List.mem_filter.mpr ⟨List.mem_append_right _ (List.mem_of_getElem? (i := 932) (by decide +kernel)), by decide +kernel⟩
theorem wg_933 : Cond.fieldLink "BedsideNetModel" 286 "BedsideNetModel" "orders" "I" ∈ wsG := List.mem_filter.mpr ⟨List.mem_append_right _ (List.mem_of_getElem? (i := 933) (by decide +kernel)), by decide +kernel⟩
theorem wg_934 : Cond.fieldLink "BedsideNetModel" 161 "BedsideNetModel" "orderController" "[I" ∈ wsG := List.mem_filter.mpr ⟨List.mem_append_right _ (List.mem_of_getElem? (i := 934) (by decide +kernel)), by decide +kernel⟩
theorem wg_935 : Cond.fieldLink "BedsideNetModel" 164 "BedsideNetModel" "orderValue" "[I" ∈ wsG := List.mem_filter.mpr ⟨List.mem_append_right _ (List.mem_of_getElem? (i := 935) (by decide +kernel)), by decide +kernel⟩
theorem wg_936 : Cond.fieldLink "BedsideNetModel" 167 "BedsideNetModel" "orderExpected" "[I" ∈ wsG := List.mem_filter.mpr ⟨List.mem_append_right _ (List.mem_of_getElem? (i := 936) (by decide +kernel)), by decide +kernel⟩
theorem wg_937 : Cond.fieldLink "BedsideNetModel" 170 "BedsideNetModel" "orderJudged" "[I" ∈ wsG := List.mem_filter.mpr ⟨List.mem_append_right _ (List.mem_of_getElem? (i := 937) (by decide +kernel)), by decide +kernel⟩
theorem wg_938 : Cond.fieldLink "BedsideNetModel" 173 "BedsideNetModel" "orderKnown" "[I" ∈ wsG := List.mem_filter.mpr ⟨List.mem_append_right _ (List.mem_of_getElem? (i := 938) (by decide +kernel)), by decide +kernel⟩
theorem wg_939 : Cond.lays "BedsideNetModel" "BedsideNetModel" "thrown" "I" ∈ wsG := List.mem_filter.mpr ⟨List.mem_append_right _ (List.mem_of_getElem? (i := 939) (by decide +kernel)), by decide +kernel⟩
theorem wg_941 : Cond.lays "BedsideNetModel" "BedsideNetModel" "now" "I" ∈ wsG := List.mem_filter.mpr ⟨List.mem_append_right _ (List.mem_of_getElem? (i := 941) (by decide +kernel)), by decide +kernel⟩
theorem wg_943 : Cond.lays "BedsideNetModel" "BedsideNetModel" "sent" "I" ∈ wsG := List.mem_filter.mpr ⟨List.mem_append_right _ (List.mem_of_getElem? (i := 943) (by decide +kernel)), by decide +kernel⟩
theorem wg_945 : Cond.lays "BedsideNetModel" "BedsideNetModel" "lost" "I" ∈ wsG := List.mem_filter.mpr ⟨List.mem_append_right _ (List.mem_of_getElem? (i := 945) (by decide +kernel)), by decide +kernel⟩
theorem wg_947 : Cond.laysFinal "BedsideNetModel" "BedsideNetModel" "patients" "[I" ∈ wsG := List.mem_filter.mpr ⟨List.mem_append_right _ (List.mem_of_getElem? (i := 947) (by decide +kernel)), by decide +kernel⟩
theorem wg_949 : Cond.laysFinal "BedsideNetModel" "BedsideNetModel" "stage" "[I" ∈ wsG := List.mem_filter.mpr ⟨List.mem_append_right _ (List.mem_of_getElem? (i := 949) (by decide +kernel)), by decide +kernel⟩
theorem wg_951 : Cond.laysFinal "BedsideNetModel" "BedsideNetModel" "bed" "[I" ∈ wsG := List.mem_filter.mpr ⟨List.mem_append_right _ (List.mem_of_getElem? (i := 951) (by decide +kernel)), by decide +kernel⟩
theorem wg_953 : Cond.laysFinal "BedsideNetModel" "BedsideNetModel" "life" "[I" ∈ wsG := List.mem_filter.mpr ⟨List.mem_append_right _ (List.mem_of_getElem? (i := 953) (by decide +kernel)), by decide +kernel⟩
theorem wg_955 : Cond.laysFinal "BedsideNetModel" "BedsideNetModel" "channels" "[I" ∈ wsG := List.mem_filter.mpr ⟨List.mem_append_right _ (List.mem_of_getElem? (i := 955) (by decide +kernel)), by decide +kernel⟩
theorem wg_957 : Cond.laysFinal "BedsideNetModel" "BedsideNetModel" "tied" "[I" ∈ wsG := List.mem_filter.mpr ⟨List.mem_append_right _ (List.mem_of_getElem? (i := 957) (by decide +kernel)), by decide +kernel⟩
theorem wg_959 : Cond.laysFinal "BedsideNetModel" "BedsideNetModel" "remote" "[Z" ∈ wsG := List.mem_filter.mpr ⟨List.mem_append_right _ (List.mem_of_getElem? (i := 959) (by decide +kernel)), by decide +kernel⟩
theorem wg_961 : Cond.laysFinal "BedsideNetModel" "BedsideNetModel" "hasSet" "[Z" ∈ wsG := List.mem_filter.mpr ⟨List.mem_append_right _ (List.mem_of_getElem? (i := 961) (by decide +kernel)), by decide +kernel⟩
theorem wg_963 : Cond.laysFinal "BedsideNetModel" "BedsideNetModel" "setLow" "[I" ∈ wsG := List.mem_filter.mpr ⟨List.mem_append_right _ (List.mem_of_getElem? (i := 963) (by decide +kernel)), by decide +kernel⟩
theorem wg_965 : Cond.laysFinal "BedsideNetModel" "BedsideNetModel" "setHigh" "[I" ∈ wsG := List.mem_filter.mpr ⟨List.mem_append_right _ (List.mem_of_getElem? (i := 965) (by decide +kernel)), by decide +kernel⟩
theorem wg_967 : Cond.laysFinal "BedsideNetModel" "BedsideNetModel" "setStep" "[I" ∈ wsG := List.mem_filter.mpr ⟨List.mem_append_right _ (List.mem_of_getElem? (i := 967) (by decide +kernel)), by decide +kernel⟩
theorem wg_969 : Cond.laysFinal "BedsideNetModel" "BedsideNetModel" "setValue" "[I" ∈ wsG := List.mem_filter.mpr ⟨List.mem_append_right _ (List.mem_of_getElem? (i := 969) (by decide +kernel)), by decide +kernel⟩
theorem wg_971 : Cond.laysFinal "BedsideNetModel" "BedsideNetModel" "leaseOf" "[I" ∈ wsG := List.mem_filter.mpr ⟨List.mem_append_right _ (List.mem_of_getElem? (i := 971) (by decide +kernel)), by decide +kernel⟩
theorem wg_973 : Cond.laysFinal "BedsideNetModel" "BedsideNetModel" "leaseAt" "[I" ∈ wsG := List.mem_filter.mpr ⟨List.mem_append_right _ (List.mem_of_getElem? (i := 973) (by decide +kernel)), by decide +kernel⟩
theorem wg_975 : Cond.laysFinal "BedsideNetModel" "BedsideNetModel" "heardSounds" "[I" ∈ wsG := List.mem_filter.mpr ⟨List.mem_append_right _ (List.mem_of_getElem? (i := 975) (by decide +kernel)), by decide +kernel⟩
theorem wg_977 : Cond.laysFinal "BedsideNetModel" "BedsideNetModel" "unit" "[I" ∈ wsG := List.mem_filter.mpr ⟨List.mem_append_right _ (List.mem_of_getElem? (i := 977) (by decide +kernel)), by decide +kernel⟩
theorem wg_979 : Cond.laysFinal "BedsideNetModel" "BedsideNetModel" "low" "[I" ∈ wsG := List.mem_filter.mpr ⟨List.mem_append_right _ (List.mem_of_getElem? (i := 979) (by decide +kernel)), by decide +kernel⟩
theorem wg_981 : Cond.laysFinal "BedsideNetModel" "BedsideNetModel" "high" "[I" ∈ wsG := List.mem_filter.mpr ⟨List.mem_append_right _ (List.mem_of_getElem? (i := 981) (by decide +kernel)), by decide +kernel⟩
theorem wg_983 : Cond.laysFinal "BedsideNetModel" "BedsideNetModel" "step" "[I" ∈ wsG := List.mem_filter.mpr ⟨List.mem_append_right _ (List.mem_of_getElem? (i := 983) (by decide +kernel)), by decide +kernel⟩
theorem wg_985 : Cond.laysFinal "BedsideNetModel" "BedsideNetModel" "priority" "[I" ∈ wsG := List.mem_filter.mpr ⟨List.mem_append_right _ (List.mem_of_getElem? (i := 985) (by decide +kernel)), by decide +kernel⟩
theorem wg_987 : Cond.laysFinal "BedsideNetModel" "BedsideNetModel" "limit" "[I" ∈ wsG := List.mem_filter.mpr ⟨List.mem_append_right _ (List.mem_of_getElem? (i := 987) (by decide +kernel)), by decide +kernel⟩
theorem wg_989 : Cond.laysFinal "BedsideNetModel" "BedsideNetModel" "delay" "[I" ∈ wsG := List.mem_filter.mpr ⟨List.mem_append_right _ (List.mem_of_getElem? (i := 989) (by decide +kernel)), by decide +kernel⟩
theorem wg_991 : Cond.laysFinal "BedsideNetModel" "BedsideNetModel" "hasValue" "[Z" ∈ wsG := List.mem_filter.mpr ⟨List.mem_append_right _ (List.mem_of_getElem? (i := 991) (by decide +kernel)), by decide +kernel⟩
theorem wg_993 : Cond.laysFinal "BedsideNetModel" "BedsideNetModel" "ofTie" "[Z" ∈ wsG := List.mem_filter.mpr ⟨List.mem_append_right _ (List.mem_of_getElem? (i := 993) (by decide +kernel)), by decide +kernel⟩
theorem wg_995 : Cond.laysFinal "BedsideNetModel" "BedsideNetModel" "value" "[I" ∈ wsG := List.mem_filter.mpr ⟨List.mem_append_right _ (List.mem_of_getElem? (i := 995) (by decide +kernel)), by decide +kernel⟩
theorem wg_997 : Cond.laysFinal "BedsideNetModel" "BedsideNetModel" "measured" "[I" ∈ wsG := List.mem_filter.mpr ⟨List.mem_append_right _ (List.mem_of_getElem? (i := 997) (by decide +kernel)), by decide +kernel⟩
theorem wg_999 : Cond.laysFinal "BedsideNetModel" "BedsideNetModel" "valueSent" "[I" ∈ wsG := List.mem_filter.mpr ⟨List.mem_append_right _ (List.mem_of_getElem? (i := 999) (by decide +kernel)), by decide +kernel⟩
theorem wg_1001 : Cond.laysFinal "BedsideNetModel" "BedsideNetModel" "above" "[I" ∈ wsG := List.mem_filter.mpr ⟨List.mem_append_right _ (List.mem_of_getElem? (i := 1001) (by decide +kernel)), by decide +kernel⟩
theorem wg_1003 : Cond.laysFinal "BedsideNetModel" "BedsideNetModel" "quietTill" "[I" ∈ wsG := List.mem_filter.mpr ⟨List.mem_append_right _ (List.mem_of_getElem? (i := 1003) (by decide +kernel)), by decide +kernel⟩
theorem wg_1005 : Cond.laysFinal "BedsideNetModel" "BedsideNetModel" "on" "[Z" ∈ wsG := List.mem_filter.mpr ⟨List.mem_append_right _ (List.mem_of_getElem? (i := 1005) (by decide +kernel)), by decide +kernel⟩
theorem wg_1007 : Cond.laysFinal "BedsideNetModel" "BedsideNetModel" "acknowledged" "[Z" ∈ wsG := List.mem_filter.mpr ⟨List.mem_append_right _ (List.mem_of_getElem? (i := 1007) (by decide +kernel)), by decide +kernel⟩
theorem wg_1009 : Cond.laysFinal "BedsideNetModel" "BedsideNetModel" "began" "[I" ∈ wsG := List.mem_filter.mpr ⟨List.mem_append_right _ (List.mem_of_getElem? (i := 1009) (by decide +kernel)), by decide +kernel⟩
theorem wg_1011 : Cond.laysFinal "BedsideNetModel" "BedsideNetModel" "known" "[I" ∈ wsG := List.mem_filter.mpr ⟨List.mem_append_right _ (List.mem_of_getElem? (i := 1011) (by decide +kernel)), by decide +kernel⟩
theorem wg_1013 : Cond.laysFinal "BedsideNetModel" "BedsideNetModel" "knownBy" "[I" ∈ wsG := List.mem_filter.mpr ⟨List.mem_append_right _ (List.mem_of_getElem? (i := 1013) (by decide +kernel)), by decide +kernel⟩
theorem wg_1015 : Cond.laysFinal "BedsideNetModel" "BedsideNetModel" "toldSounds" "[I" ∈ wsG := List.mem_filter.mpr ⟨List.mem_append_right _ (List.mem_of_getElem? (i := 1015) (by decide +kernel)), by decide +kernel⟩
theorem wg_1017 : Cond.lays "BedsideNetModel" "BedsideNetModel" "pending" "I" ∈ wsG := List.mem_filter.mpr ⟨List.mem_append_right _ (List.mem_of_getElem? (i := 1017) (by decide +kernel)), by decide +kernel⟩
theorem wg_1019 : Cond.laysFinal "BedsideNetModel" "BedsideNetModel" "number" "[I" ∈ wsG := List.mem_filter.mpr ⟨List.mem_append_right _ (List.mem_of_getElem? (i := 1019) (by decide +kernel)), by decide +kernel⟩
theorem wg_1021 : Cond.laysFinal "BedsideNetModel" "BedsideNetModel" "kind" "[I" ∈ wsG := List.mem_filter.mpr ⟨List.mem_append_right _ (List.mem_of_getElem? (i := 1021) (by decide +kernel)), by decide +kernel⟩
theorem wg_1023 : Cond.laysFinal "BedsideNetModel" "BedsideNetModel" "of" "[I" ∈ wsG := List.mem_filter.mpr ⟨List.mem_append_right _ (List.mem_of_getElem? (i := 1023) (by decide +kernel)), by decide +kernel⟩
theorem wg_1025 : Cond.laysFinal "BedsideNetModel" "BedsideNetModel" "which" "[I" ∈ wsG := List.mem_filter.mpr ⟨List.mem_append_right _ (List.mem_of_getElem? (i := 1025) (by decide +kernel)), by decide +kernel⟩
theorem wg_1027 : Cond.laysFinal "BedsideNetModel" "BedsideNetModel" "sentLife" "[I" ∈ wsG := List.mem_filter.mpr ⟨List.mem_append_right _ (List.mem_of_getElem? (i := 1027) (by decide +kernel)), by decide +kernel⟩
theorem wg_1029 : Cond.laysFinal "BedsideNetModel" "BedsideNetModel" "content" "[I" ∈ wsG := List.mem_filter.mpr ⟨List.mem_append_right _ (List.mem_of_getElem? (i := 1029) (by decide +kernel)), by decide +kernel⟩
theorem wg_1031 : Cond.laysFinal "BedsideNetModel" "BedsideNetModel" "when" "[I" ∈ wsG := List.mem_filter.mpr ⟨List.mem_append_right _ (List.mem_of_getElem? (i := 1031) (by decide +kernel)), by decide +kernel⟩
theorem wg_1033 : Cond.laysFinal "BedsideNetModel" "BedsideNetModel" "whose" "[I" ∈ wsG := List.mem_filter.mpr ⟨List.mem_append_right _ (List.mem_of_getElem? (i := 1033) (by decide +kernel)), by decide +kernel⟩
theorem wg_1035 : Cond.lays "BedsideNetModel" "BedsideNetModel" "handles" "I" ∈ wsG := List.mem_filter.mpr ⟨List.mem_append_right _ (List.mem_of_getElem? (i := 1035) (by decide +kernel)), by decide +kernel⟩
theorem wg_1037 : Cond.laysFinal "BedsideNetModel" "BedsideNetModel" "handleChannel" "[I" ∈ wsG := List.mem_filter.mpr ⟨List.mem_append_right _ (List.mem_of_getElem? (i := 1037) (by decide +kernel)), by decide +kernel⟩
theorem wg_1039 : Cond.laysFinal "BedsideNetModel" "BedsideNetModel" "handleLife" "[I" ∈ wsG := List.mem_filter.mpr ⟨List.mem_append_right _ (List.mem_of_getElem? (i := 1039) (by decide +kernel)), by decide +kernel⟩
theorem wg_1041 : Cond.laysFinal "BedsideNetModel" "BedsideNetModel" "handlePatient" "[I" ∈ wsG := List.mem_filter.mpr ⟨List.mem_append_right _ (List.mem_of_getElem? (i := 1041) (by decide +kernel)), by decide +kernel⟩
theorem wg_1043 : Cond.laysFinal "BedsideNetModel" "BedsideNetModel" "handleBy" "[I" ∈ wsG := List.mem_filter.mpr ⟨List.mem_append_right _ (List.mem_of_getElem? (i := 1043) (by decide +kernel)), by decide +kernel⟩
theorem wg_1045 : Cond.laysFinal "BedsideNetModel" "BedsideNetModel" "handleValue" "[I" ∈ wsG := List.mem_filter.mpr ⟨List.mem_append_right _ (List.mem_of_getElem? (i := 1045) (by decide +kernel)), by decide +kernel⟩
theorem wg_1047 : Cond.laysFinal "BedsideNetModel" "BedsideNetModel" "handleMeasured" "[I" ∈ wsG := List.mem_filter.mpr ⟨List.mem_append_right _ (List.mem_of_getElem? (i := 1047) (by decide +kernel)), by decide +kernel⟩
theorem wg_1049 : Cond.laysFinal "BedsideNetModel" "BedsideNetModel" "handleHeard" "[I" ∈ wsG := List.mem_filter.mpr ⟨List.mem_append_right _ (List.mem_of_getElem? (i := 1049) (by decide +kernel)), by decide +kernel⟩
theorem wg_1051 : Cond.lays "BedsideNetModel" "BedsideNetModel" "orders" "I" ∈ wsG := List.mem_filter.mpr ⟨List.mem_append_right _ (List.mem_of_getElem? (i := 1051) (by decide +kernel)), by decide +kernel⟩
theorem wg_1053 : Cond.laysFinal "BedsideNetModel" "BedsideNetModel" "orderController" "[I" ∈ wsG := List.mem_filter.mpr ⟨List.mem_append_right _ (List.mem_of_getElem? (i := 1053) (by decide +kernel)), by decide +kernel⟩
theorem wg_1055 : Cond.laysFinal "BedsideNetModel" "BedsideNetModel" "orderValue" "[I" ∈ wsG := List.mem_filter.mpr ⟨List.mem_append_right _ (List.mem_of_getElem? (i := 1055) (by decide +kernel)), by decide +kernel⟩
theorem wg_1057 : Cond.laysFinal "BedsideNetModel" "BedsideNetModel" "orderExpected" "[I" ∈ wsG := List.mem_filter.mpr ⟨List.mem_append_right _ (List.mem_of_getElem? (i := 1057) (by decide +kernel)), by decide +kernel⟩
theorem wg_1059 : Cond.laysFinal "BedsideNetModel" "BedsideNetModel" "orderJudged" "[I" ∈ wsG := List.mem_filter.mpr ⟨List.mem_append_right _ (List.mem_of_getElem? (i := 1059) (by decide +kernel)), by decide +kernel⟩
theorem wg_1061 : Cond.laysFinal "BedsideNetModel" "BedsideNetModel" "orderKnown" "[I" ∈ wsG := List.mem_filter.mpr ⟨List.mem_append_right _ (List.mem_of_getElem? (i := 1061) (by decide +kernel)), by decide +kernel⟩
theorem wg_1064 : Cond.arrayClass FieldType.boolean ∈ wsG := List.mem_filter.mpr ⟨List.mem_append_right _ (List.mem_of_getElem? (i := 1064) (by decide +kernel)), by decide +kernel⟩
theorem wg_1065 : Cond.methodLink "BedsideNetLaw" 57 ⟨"BedsideNetModel", "thrown", "()I"⟩ ∈ wsG := List.mem_filter.mpr ⟨List.mem_append_right _ (List.mem_of_getElem? (i := 1065) (by decide +kernel)), by decide +kernel⟩
theorem wg_1066 : Cond.instanceMethod ⟨"BedsideNetModel", "thrown", "()I"⟩ ∈ wsG := List.mem_filter.mpr ⟨List.mem_append_right _ (List.mem_of_getElem? (i := 1066) (by decide +kernel)), by decide +kernel⟩
theorem wg_1067 : Cond.selects "BedsideNetModel" ⟨"BedsideNetModel", "thrown", "()I"⟩ ⟨"BedsideNetModel", "thrown", "()I"⟩ ∈ wsG := List.mem_filter.mpr ⟨List.mem_append_right _ (List.mem_of_getElem? (i := 1067) (by decide +kernel)), by decide +kernel⟩
theorem wg_1068 : Cond.code ⟨"BedsideNetModel", "thrown", "()I"⟩ prog_13_method_2_code 1 (Option.some FieldType.int) ∈ wsG := List.mem_filter.mpr ⟨List.mem_append_right _ (List.mem_append_right _ (List.mem_append_right _ (List.mem_append_right _ (List.mem_append_right _ (List.mem_append_left _ (List.mem_of_getElem? (i := 108) (by rfl))))))), by rfl⟩
theorem wg_1069 : Cond.methodLink "BedsideNetLaw" 50 ⟨"BedsideNetModel", "device", "(II)Z"⟩ ∈ wsG := List.mem_filter.mpr ⟨List.mem_append_right _ (List.mem_of_getElem? (i := 1069) (by decide +kernel)), by decide +kernel⟩
theorem wg_1070 : Cond.instanceMethod ⟨"BedsideNetModel", "device", "(II)Z"⟩ ∈ wsG := List.mem_filter.mpr ⟨List.mem_append_right _ (List.mem_of_getElem? (i := 1070) (by decide +kernel)), by decide +kernel⟩
theorem wg_1071 : Cond.selects "BedsideNetModel" ⟨"BedsideNetModel", "device", "(II)Z"⟩ ⟨"BedsideNetModel", "device", "(II)Z"⟩ ∈ wsG := List.mem_filter.mpr ⟨List.mem_append_right _ (List.mem_of_getElem? (i := 1071) (by decide +kernel)), by decide +kernel⟩
theorem wg_1072 : Cond.code ⟨"BedsideNetModel", "device", "(II)Z"⟩ prog_13_method_11_code 4 (Option.some FieldType.boolean) ∈ wsG := List.mem_filter.mpr ⟨List.mem_append_right _ (List.mem_append_right _ (List.mem_append_right _ (List.mem_append_right _ (List.mem_append_right _ (List.mem_append_left _ (List.mem_of_getElem? (i := 112) (by rfl))))))), by rfl⟩
theorem wg_1073 : Cond.methodLink "BedsideNetModel" 185 ⟨"BedsideNetModel", "isDevice", "(I)Z"⟩ ∈ wsG := List.mem_filter.mpr ⟨List.mem_append_right _ (List.mem_of_getElem? (i := 1073) (by decide +kernel)), by decide +kernel⟩
theorem wg_1074 : Cond.static ⟨"BedsideNetModel", "isDevice", "(I)Z"⟩ ∈ wsG := List.mem_filter.mpr ⟨List.mem_append_right _ (List.mem_of_getElem? (i := 1074) (by decide +kernel)), by decide +kernel⟩
theorem wg_1075 : Cond.code ⟨"BedsideNetModel", "isDevice", "(I)Z"⟩ prog_13_method_3_code 1 (Option.some FieldType.boolean) ∈ wsG := List.mem_filter.mpr ⟨List.mem_append_right _ (List.mem_append_right _ (List.mem_append_right _ (List.mem_append_right _ (List.mem_append_right _ (List.mem_append_left _ (List.mem_of_getElem? (i := 115) (by rfl))))))), by rfl⟩
theorem wg_1076 : Cond.methodLink "BedsideNetModel" 194 ⟨"BedsideNetModel", "isBed", "(I)Z"⟩ ∈ wsG := List.mem_filter.mpr ⟨List.mem_append_right _ (List.mem_of_getElem? (i := 1076) (by decide +kernel)), by decide +kernel⟩
theorem wg_1077 : Cond.static ⟨"BedsideNetModel", "isBed", "(I)Z"⟩ ∈ wsG := List.mem_filter.mpr ⟨List.mem_append_right _ (List.mem_of_getElem? (i := 1077) (by decide +kernel)), by decide +kernel⟩
theorem wg_1078 : Cond.code ⟨"BedsideNetModel", "isBed", "(I)Z"⟩ prog_13_method_4_code 1 (Option.some FieldType.boolean) ∈ wsG := List.mem_filter.mpr ⟨List.mem_append_right _ (List.mem_append_right _ (List.mem_append_right _ (List.mem_append_right _ (List.mem_append_right _ (List.mem_append_left _ (List.mem_of_getElem? (i := 118) (by rfl))))))), by rfl⟩
theorem wg_1079 : Cond.methodLink "BedsideNetLaw" 56 ⟨"BedsideNetModel", "channel", "(IIIII)I"⟩ ∈ wsG := List.mem_filter.mpr ⟨List.mem_append_right _ (List.mem_of_getElem? (i := 1079) (by decide +kernel)), by decide +kernel⟩
theorem wg_1080 : Cond.instanceMethod ⟨"BedsideNetModel", "channel", "(IIIII)I"⟩ ∈ wsG := List.mem_filter.mpr ⟨List.mem_append_right _ (List.mem_of_getElem? (i := 1080) (by decide +kernel)), by decide +kernel⟩
theorem wg_1081 : Cond.selects "BedsideNetModel" ⟨"BedsideNetModel", "channel", "(IIIII)I"⟩ ⟨"BedsideNetModel", "channel", "(IIIII)I"⟩ ∈ wsG := List.mem_filter.mpr ⟨List.mem_append_right _ (List.mem_of_getElem? (i := 1081) (by decide +kernel)), by decide +kernel⟩
theorem wg_1082 : Cond.code ⟨"BedsideNetModel", "channel", "(IIIII)I"⟩ prog_13_method_12_code 8 (Option.some FieldType.int) ∈ wsG := List.mem_filter.mpr ⟨List.mem_append_right _ (List.mem_append_right _ (List.mem_append_right _ (List.mem_append_right _ (List.mem_append_right _ (List.mem_append_left _ (List.mem_of_getElem? (i := 122) (by rfl))))))), by rfl⟩
theorem wg_1083 : Cond.methodLink "BedsideNetModel" 197 ⟨"BedsideNetModel", "isAt", "(II)Z"⟩ ∈ wsG := List.mem_filter.mpr ⟨List.mem_append_right _ (List.mem_of_getElem? (i := 1083) (by decide +kernel)), by decide +kernel⟩
theorem wg_1085 : Cond.instanceMethod ⟨"BedsideNetModel", "isAt", "(II)Z"⟩ ∈ wsG := List.mem_filter.mpr ⟨List.mem_append_right _ (List.mem_of_getElem? (i := 1085) (by decide +kernel)), by decide +kernel⟩
theorem wg_1086 : Cond.code ⟨"BedsideNetModel", "isAt", "(II)Z"⟩ prog_13_method_5_code 3 (Option.some FieldType.boolean) ∈ wsG := List.mem_filter.mpr ⟨List.mem_append_right _ (List.mem_append_right _ (List.mem_append_right _ (List.mem_append_right _ (List.mem_append_right _ (List.mem_append_left _ (List.mem_of_getElem? (i := 126) (by rfl))))))), by rfl⟩
theorem wg_1087 : Cond.methodLink "BedsideNetModel" 201 ⟨"BedsideNetModel", "isRange", "(III)Z"⟩ ∈ wsG := List.mem_filter.mpr ⟨List.mem_append_right _ (List.mem_of_getElem? (i := 1087) (by decide +kernel)), by decide +kernel⟩
theorem wg_1088 : Cond.static ⟨"BedsideNetModel", "isRange", "(III)Z"⟩ ∈ wsG := List.mem_filter.mpr ⟨List.mem_append_right _ (List.mem_of_getElem? (i := 1088) (by decide +kernel)), by decide +kernel⟩
theorem wg_1089 : Cond.code ⟨"BedsideNetModel", "isRange", "(III)Z"⟩ prog_13_method_8_code 3 (Option.some FieldType.boolean) ∈ wsG := List.mem_filter.mpr ⟨List.mem_append_right _ (List.mem_append_right _ (List.mem_append_right _ (List.mem_append_right _ (List.mem_append_right _ (List.mem_append_left _ (List.mem_of_getElem? (i := 129) (by rfl))))))), by rfl⟩
theorem wg_1090 : Cond.methodLink "BedsideNetModel" 191 ⟨"BedsideNetModel", "isNumber", "(I)Z"⟩ ∈ wsG := List.mem_filter.mpr ⟨List.mem_append_right _ (List.mem_of_getElem? (i := 1090) (by decide +kernel)), by decide +kernel⟩
theorem wg_1091 : Cond.static ⟨"BedsideNetModel", "isNumber", "(I)Z"⟩ ∈ wsG := List.mem_filter.mpr ⟨List.mem_append_right _ (List.mem_of_getElem? (i := 1091) (by decide +kernel)), by decide +kernel⟩
theorem wg_1092 : Cond.code ⟨"BedsideNetModel", "isNumber", "(I)Z"⟩ prog_13_method_7_code 1 (Option.some FieldType.boolean) ∈ wsG := List.mem_filter.mpr ⟨List.mem_append_right _ (List.mem_append_right _ (List.mem_append_right _ (List.mem_append_right _ (List.mem_append_right _ (List.mem_append_left _ (List.mem_of_getElem? (i := 132) (by rfl))))))), by rfl⟩
theorem wg_1093 : Cond.constant "BedsideNetModel" 189 (-100000) ∈ wsG := List.mem_filter.mpr ⟨List.mem_append_right _ (List.mem_of_getElem? (i := 1093) (by decide +kernel)), by decide +kernel⟩
theorem wg_1094 : Cond.constant "BedsideNetModel" 190 100000 ∈ wsG := List.mem_filter.mpr ⟨List.mem_append_right _ (List.mem_of_getElem? (i := 1094) (by decide +kernel)), by decide +kernel⟩
theorem wg_1095 : Cond.methodLink "BedsideNetLaw" 65 ⟨"BedsideNetModel", "alarm", "(IIIII)Z"⟩ ∈ wsG := List.mem_filter.mpr ⟨List.mem_append_right _ (List.mem_of_getElem? (i := 1095) (by decide +kernel)), by decide +kernel⟩
theorem wg_1096 : Cond.instanceMethod ⟨"BedsideNetModel", "alarm", "(IIIII)Z"⟩ ∈ wsG := List.mem_filter.mpr ⟨List.mem_append_right _ (List.mem_of_getElem? (i := 1096) (by decide +kernel)), by decide +kernel⟩
theorem wg_1097 : Cond.selects "BedsideNetModel" ⟨"BedsideNetModel", "alarm", "(IIIII)Z"⟩ ⟨"BedsideNetModel", "alarm", "(IIIII)Z"⟩ ∈ wsG := List.mem_filter.mpr ⟨List.mem_append_right _ (List.mem_of_getElem? (i := 1097) (by decide +kernel)), by decide +kernel⟩
theorem wg_1098 : Cond.code ⟨"BedsideNetModel", "alarm", "(IIIII)Z"⟩ prog_13_method_13_code 6 (Option.some FieldType.boolean) ∈ wsG := List.mem_filter.mpr ⟨List.mem_append_right _ (List.mem_append_right _ (List.mem_append_right _ (List.mem_append_right _ (List.mem_append_right _ (List.mem_append_left _ (List.mem_of_getElem? (i := 138) (by rfl))))))), by rfl⟩
theorem wg_1099 : Cond.methodLink "BedsideNetModel" 205 ⟨"BedsideNetModel", "isChannel", "(II)Z"⟩ ∈ wsG := List.mem_filter.mpr ⟨List.mem_append_right _ (List.mem_of_getElem? (i := 1099) (by decide +kernel)), by decide +kernel⟩
theorem wg_1101 : Cond.instanceMethod ⟨"BedsideNetModel", "isChannel", "(II)Z"⟩ ∈ wsG := List.mem_filter.mpr ⟨List.mem_append_right _ (List.mem_of_getElem? (i := 1101) (by decide +kernel)), by decide +kernel⟩
theorem wg_1102 : Cond.code ⟨"BedsideNetModel", "isChannel", "(II)Z"⟩ prog_13_method_6_code 3 (Option.some FieldType.boolean) ∈ wsG := List.mem_filter.mpr ⟨List.mem_append_right _ (List.mem_append_right _ (List.mem_append_right _ (List.mem_append_right _ (List.mem_append_right _ (List.mem_append_left _ (List.mem_of_getElem? (i := 142) (by rfl))))))), by rfl⟩
theorem wg_1103 : Cond.methodLink "BedsideNetLaw" 70 ⟨"BedsideNetModel", "setPoint", "(IIII)Z"⟩ ∈ wsG := List.mem_filter.mpr ⟨List.mem_append_right _ (List.mem_of_getElem? (i := 1103) (by decide +kernel)), by decide +kernel⟩
theorem wg_1104 : Cond.instanceMethod ⟨"BedsideNetModel", "setPoint", "(IIII)Z"⟩ ∈ wsG := List.mem_filter.mpr ⟨List.mem_append_right _ (List.mem_of_getElem? (i := 1104) (by decide +kernel)), by decide +kernel⟩
theorem wg_1105 : Cond.selects "BedsideNetModel" ⟨"BedsideNetModel", "setPoint", "(IIII)Z"⟩ ⟨"BedsideNetModel", "setPoint", "(IIII)Z"⟩ ∈ wsG := List.mem_filter.mpr ⟨List.mem_append_right _ (List.mem_of_getElem? (i := 1105) (by decide +kernel)), by decide +kernel⟩
theorem wg_1106 : Cond.code ⟨"BedsideNetModel", "setPoint", "(IIII)Z"⟩ prog_13_method_14_code 5 (Option.some FieldType.boolean) ∈ wsG := List.mem_filter.mpr ⟨List.mem_append_right _ (List.mem_append_right _ (List.mem_append_right _ (List.mem_append_right _ (List.mem_append_right _ (List.mem_append_left _ (List.mem_of_getElem? (i := 146) (by rfl))))))), by rfl⟩
theorem wg_1107 : Cond.methodLink "BedsideNetLaw" 75 ⟨"BedsideNetModel", "seal", "(I)Z"⟩ ∈ wsG := List.mem_filter.mpr ⟨List.mem_append_right _ (List.mem_of_getElem? (i := 1107) (by decide +kernel)), by decide +kernel⟩
theorem wg_1108 : Cond.instanceMethod ⟨"BedsideNetModel", "seal", "(I)Z"⟩ ∈ wsG := List.mem_filter.mpr ⟨List.mem_append_right _ (List.mem_of_getElem? (i := 1108) (by decide +kernel)), by decide +kernel⟩
theorem wg_1109 : Cond.selects "BedsideNetModel" ⟨"BedsideNetModel", "seal", "(I)Z"⟩ ⟨"BedsideNetModel", "seal", "(I)Z"⟩ ∈ wsG := List.mem_filter.mpr ⟨List.mem_append_right _ (List.mem_of_getElem? (i := 1109) (by decide +kernel)), by decide +kernel⟩
theorem wg_1110 : Cond.code ⟨"BedsideNetModel", "seal", "(I)Z"⟩ prog_13_method_15_code 2 (Option.some FieldType.boolean) ∈ wsG := List.mem_filter.mpr ⟨List.mem_append_right _ (List.mem_append_right _ (List.mem_append_right _ (List.mem_append_right _ (List.mem_append_right _ (List.mem_append_left _ (List.mem_of_getElem? (i := 150) (by rfl))))))), by rfl⟩
theorem wg_1111 : Cond.methodLink "BedsideNetLaw" 79 ⟨"BedsideNetModel", "move", "(II)Z"⟩ ∈ wsG := List.mem_filter.mpr ⟨List.mem_append_right _ (List.mem_of_getElem? (i := 1111) (by decide +kernel)), by decide +kernel⟩
theorem wg_1112 : Cond.instanceMethod ⟨"BedsideNetModel", "move", "(II)Z"⟩ ∈ wsG := List.mem_filter.mpr ⟨List.mem_append_right _ (List.mem_of_getElem? (i := 1112) (by decide +kernel)), by decide +kernel⟩
theorem wg_1113 : Cond.selects "BedsideNetModel" ⟨"BedsideNetModel", "move", "(II)Z"⟩ ⟨"BedsideNetModel", "move", "(II)Z"⟩ ∈ wsG := List.mem_filter.mpr ⟨List.mem_append_right _ (List.mem_of_getElem? (i := 1113) (by decide +kernel)), by decide +kernel⟩
theorem wg_1114 : Cond.code ⟨"BedsideNetModel", "move", "(II)Z"⟩ prog_13_method_17_code 3 (Option.some FieldType.boolean) ∈ wsG := List.mem_filter.mpr ⟨List.mem_append_right _ (List.mem_append_right _ (List.mem_append_right _ (List.mem_append_right _ (List.mem_append_right _ (List.mem_append_left _ (List.mem_of_getElem? (i := 154) (by rfl))))))), by rfl⟩
theorem wg_1115 : Cond.methodLink "BedsideNetModel" 208 ⟨"BedsideNetModel", "untie", "(I)V"⟩ ∈ wsG := List.mem_filter.mpr ⟨List.mem_append_right _ (List.mem_of_getElem? (i := 1115) (by decide +kernel)), by decide +kernel⟩
theorem wg_1117 : Cond.instanceMethod ⟨"BedsideNetModel", "untie", "(I)V"⟩ ∈ wsG := List.mem_filter.mpr ⟨List.mem_append_right _ (List.mem_of_getElem? (i := 1117) (by decide +kernel)), by decide +kernel⟩
theorem wg_1118 : Cond.code ⟨"BedsideNetModel", "untie", "(I)V"⟩ prog_13_method_16_code 3 (Option.none : Option FieldType) ∈ wsG := List.mem_filter.mpr ⟨List.mem_append_right _ (List.mem_append_right _ (List.mem_append_right _ (List.mem_append_right _ (List.mem_append_right _ (List.mem_append_left _ (List.mem_of_getElem? (i := 158) (by rfl))))))), by rfl⟩
theorem wg_1119 : Cond.methodLink "BedsideNetModel" 211 ⟨"BedsideNetModel", "settle", "()V"⟩ ∈ wsG := List.mem_filter.mpr ⟨List.mem_append_right _ (List.mem_of_getElem? (i := 1119) (by decide +kernel)), by decide +kernel⟩
theorem wg_1121 : Cond.instanceMethod ⟨"BedsideNetModel", "settle", "()V"⟩ ∈ wsG := List.mem_filter.mpr ⟨List.mem_append_right _ (List.mem_of_getElem? (i := 1121) (by decide +kernel)), by decide +kernel⟩
theorem wg_1122 : Cond.code ⟨"BedsideNetModel", "settle", "()V"⟩ prog_13_method_28_code 4 (Option.none : Option FieldType) ∈ wsG := List.mem_filter.mpr ⟨List.mem_append_right _ (List.mem_append_right _ (List.mem_append_right _ (List.mem_append_right _ (List.mem_append_right _ (List.mem_append_left _ (List.mem_of_getElem? (i := 162) (by rfl))))))), by rfl⟩
theorem wg_1123 : Cond.methodLink "BedsideNetModel" 233 ⟨"BedsideNetModel", "isSo", "(I)Z"⟩ ∈ wsG := List.mem_filter.mpr ⟨List.mem_append_right _ (List.mem_of_getElem? (i := 1123) (by decide +kernel)), by decide +kernel⟩
theorem wg_1125 : Cond.instanceMethod ⟨"BedsideNetModel", "isSo", "(I)Z"⟩ ∈ wsG := List.mem_filter.mpr ⟨List.mem_append_right _ (List.mem_of_getElem? (i := 1125) (by decide +kernel)), by decide +kernel⟩
theorem wg_1126 : Cond.code ⟨"BedsideNetModel", "isSo", "(I)Z"⟩ prog_13_method_26_code 2 (Option.some FieldType.boolean) ∈ wsG := List.mem_filter.mpr ⟨List.mem_append_right _ (List.mem_append_right _ (List.mem_append_right _ (List.mem_append_right _ (List.mem_append_right _ (List.mem_append_left _ (List.mem_of_getElem? (i := 166) (by rfl))))))), by rfl⟩
theorem wg_1127 : Cond.methodLink "BedsideNetModel" 230 ⟨"BedsideNetModel", "isAbove", "(I)Z"⟩ ∈ wsG := List.mem_filter.mpr ⟨List.mem_append_right _ (List.mem_of_getElem? (i := 1127) (by decide +kernel)), by decide +kernel⟩
theorem wg_1129 : Cond.instanceMethod ⟨"BedsideNetModel", "isAbove", "(I)Z"⟩ ∈ wsG := List.mem_filter.mpr ⟨List.mem_append_right _ (List.mem_of_getElem? (i := 1129) (by decide +kernel)), by decide +kernel⟩
theorem wg_1130 : Cond.code ⟨"BedsideNetModel", "isAbove", "(I)Z"⟩ prog_13_method_25_code 2 (Option.some FieldType.boolean) ∈ wsG := List.mem_filter.mpr ⟨List.mem_append_right _ (List.mem_append_right _ (List.mem_append_right _ (List.mem_append_right _ (List.mem_append_right _ (List.mem_append_left _ (List.mem_of_getElem? (i := 170) (by rfl))))))), by rfl⟩
theorem wg_1131 : Cond.methodLink "BedsideNetModel" 236 ⟨"BedsideNetModel", "since", "(I)I"⟩ ∈ wsG := List.mem_filter.mpr ⟨List.mem_append_right _ (List.mem_of_getElem? (i := 1131) (by decide +kernel)), by decide +kernel⟩
theorem wg_1133 : Cond.instanceMethod ⟨"BedsideNetModel", "since", "(I)I"⟩ ∈ wsG := List.mem_filter.mpr ⟨List.mem_append_right _ (List.mem_of_getElem? (i := 1133) (by decide +kernel)), by decide +kernel⟩
theorem wg_1134 : Cond.code ⟨"BedsideNetModel", "since", "(I)I"⟩ prog_13_method_27_code 2 (Option.some FieldType.int) ∈ wsG := List.mem_filter.mpr ⟨List.mem_append_right _ (List.mem_append_right _ (List.mem_append_right _ (List.mem_append_right _ (List.mem_append_right _ (List.mem_append_left _ (List.mem_of_getElem? (i := 174) (by rfl))))))), by rfl⟩
theorem wg_1135 : Cond.methodLink "BedsideNetModel" 226 ⟨"BedsideNetModel", "send", "(IIIII)V"⟩ ∈ wsG := List.mem_filter.mpr ⟨List.mem_append_right _ (List.mem_of_getElem? (i := 1135) (by decide +kernel)), by decide +kernel⟩
theorem wg_1137 : Cond.instanceMethod ⟨"BedsideNetModel", "send", "(IIIII)V"⟩ ∈ wsG := List.mem_filter.mpr ⟨List.mem_append_right _ (List.mem_of_getElem? (i := 1137) (by decide +kernel)), by decide +kernel⟩
theorem wg_1138 : Cond.code ⟨"BedsideNetModel", "send", "(IIIII)V"⟩ prog_13_method_20_code 6 (Option.none : Option FieldType) ∈ wsG := List.mem_filter.mpr ⟨List.mem_append_right _ (List.mem_append_right _ (List.mem_append_right _ (List.mem_append_right _ (List.mem_append_right _ (List.mem_append_left _ (List.mem_of_getElem? (i := 178) (by rfl))))))), by rfl⟩
theorem wg_1139 : Cond.methodLink "BedsideNetLaw" 83 ⟨"BedsideNetModel", "patient", "(II)Z"⟩ ∈ wsG := List.mem_filter.mpr ⟨List.mem_append_right _ (List.mem_of_getElem? (i := 1139) (by decide +kernel)), by decide +kernel⟩
theorem wg_1140 : Cond.instanceMethod ⟨"BedsideNetModel", "patient", "(II)Z"⟩ ∈ wsG := List.mem_filter.mpr ⟨List.mem_append_right _ (List.mem_of_getElem? (i := 1140) (by decide +kernel)), by decide +kernel⟩
theorem wg_1141 : Cond.selects "BedsideNetModel" ⟨"BedsideNetModel", "patient", "(II)Z"⟩ ⟨"BedsideNetModel", "patient", "(II)Z"⟩ ∈ wsG := List.mem_filter.mpr ⟨List.mem_append_right _ (List.mem_of_getElem? (i := 1141) (by decide +kernel)), by decide +kernel⟩
theorem wg_1142 : Cond.code ⟨"BedsideNetModel", "patient", "(II)Z"⟩ prog_13_method_18_code 4 (Option.some FieldType.boolean) ∈ wsG := List.mem_filter.mpr ⟨List.mem_append_right _ (List.mem_append_right _ (List.mem_append_right _ (List.mem_append_right _ (List.mem_append_right _ (List.mem_append_left _ (List.mem_of_getElem? (i := 182) (by rfl))))))), by rfl⟩
theorem wg_1143 : Cond.methodLink "BedsideNetLaw" 87 ⟨"BedsideNetModel", "confirm", "(I)Z"⟩ ∈ wsG := List.mem_filter.mpr ⟨List.mem_append_right _ (List.mem_of_getElem? (i := 1143) (by decide +kernel)), by decide +kernel⟩
theorem wg_1144 : Cond.instanceMethod ⟨"BedsideNetModel", "confirm", "(I)Z"⟩ ∈ wsG := List.mem_filter.mpr ⟨List.mem_append_right _ (List.mem_of_getElem? (i := 1144) (by decide +kernel)), by decide +kernel⟩
theorem wg_1145 : Cond.selects "BedsideNetModel" ⟨"BedsideNetModel", "confirm", "(I)Z"⟩ ⟨"BedsideNetModel", "confirm", "(I)Z"⟩ ∈ wsG := List.mem_filter.mpr ⟨List.mem_append_right _ (List.mem_of_getElem? (i := 1145) (by decide +kernel)), by decide +kernel⟩
theorem wg_1146 : Cond.code ⟨"BedsideNetModel", "confirm", "(I)Z"⟩ prog_13_method_19_code 2 (Option.some FieldType.boolean) ∈ wsG := List.mem_filter.mpr ⟨List.mem_append_right _ (List.mem_append_right _ (List.mem_append_right _ (List.mem_append_right _ (List.mem_append_right _ (List.mem_append_left _ (List.mem_of_getElem? (i := 186) (by rfl))))))), by rfl⟩
theorem wg_1147 : Cond.methodLink "BedsideNetLaw" 92 ⟨"BedsideNetModel", "sample", "(III)Z"⟩ ∈ wsG := List.mem_filter.mpr ⟨List.mem_append_right _ (List.mem_of_getElem? (i := 1147) (by decide +kernel)), by decide +kernel⟩
theorem wg_1148 : Cond.instanceMethod ⟨"BedsideNetModel", "sample", "(III)Z"⟩ ∈ wsG := List.mem_filter.mpr ⟨List.mem_append_right _ (List.mem_of_getElem? (i := 1148) (by decide +kernel)), by decide +kernel⟩
theorem wg_1149 : Cond.selects "BedsideNetModel" ⟨"BedsideNetModel", "sample", "(III)Z"⟩ ⟨"BedsideNetModel", "sample", "(III)Z"⟩ ∈ wsG := List.mem_filter.mpr ⟨List.mem_append_right _ (List.mem_of_getElem? (i := 1149) (by decide +kernel)), by decide +kernel⟩
theorem wg_1150 : Cond.code ⟨"BedsideNetModel", "sample", "(III)Z"⟩ prog_13_method_29_code 6 (Option.some FieldType.boolean) ∈ wsG := List.mem_filter.mpr ⟨List.mem_append_right _ (List.mem_append_right _ (List.mem_append_right _ (List.mem_append_right _ (List.mem_append_right _ (List.mem_append_left _ (List.mem_of_getElem? (i := 190) (by rfl))))))), by rfl⟩
theorem wg_1151 : Cond.methodLink "BedsideNetModel" 240 ⟨"BedsideNetModel", "fits", "(IIII)Z"⟩ ∈ wsG := List.mem_filter.mpr ⟨List.mem_append_right _ (List.mem_of_getElem? (i := 1151) (by decide +kernel)), by decide +kernel⟩
theorem wg_1152 : Cond.static ⟨"BedsideNetModel", "fits", "(IIII)Z"⟩ ∈ wsG := List.mem_filter.mpr ⟨List.mem_append_right _ (List.mem_of_getElem? (i := 1152) (by decide +kernel)), by decide +kernel⟩
theorem wg_1153 : Cond.code ⟨"BedsideNetModel", "fits", "(IIII)Z"⟩ prog_13_method_9_code 4 (Option.some FieldType.boolean) ∈ wsG := List.mem_filter.mpr ⟨List.mem_append_right _ (List.mem_append_right _ (List.mem_append_right _ (List.mem_append_right _ (List.mem_append_right _ (List.mem_append_left _ (List.mem_of_getElem? (i := 193) (by rfl))))))), by rfl⟩
theorem wg_1154 : Cond.methodLink "BedsideNetModel" 244 ⟨"BedsideNetModel", "sendValue", "(II)V"⟩ ∈ wsG := List.mem_filter.mpr ⟨List.mem_append_right _ (List.mem_of_getElem? (i := 1154) (by decide +kernel)), by decide +kernel⟩
theorem wg_1156 : Cond.instanceMethod ⟨"BedsideNetModel", "sendValue", "(II)V"⟩ ∈ wsG := List.mem_filter.mpr ⟨List.mem_append_right _ (List.mem_of_getElem? (i := 1156) (by decide +kernel)), by decide +kernel⟩
theorem wg_1157 : Cond.code ⟨"BedsideNetModel", "sendValue", "(II)V"⟩ prog_13_method_21_code 4 (Option.none : Option FieldType) ∈ wsG := List.mem_filter.mpr ⟨List.mem_append_right _ (List.mem_append_right _ (List.mem_append_right _ (List.mem_append_right _ (List.mem_append_right _ (List.mem_append_left _ (List.mem_of_getElem? (i := 197) (by rfl))))))), by rfl⟩
theorem wg_1158 : Cond.methodLink "BedsideNetLaw" 96 ⟨"BedsideNetModel", "tick", "(I)I"⟩ ∈ wsG := List.mem_filter.mpr ⟨List.mem_append_right _ (List.mem_of_getElem? (i := 1158) (by decide +kernel)), by decide +kernel⟩
theorem wg_1159 : Cond.instanceMethod ⟨"BedsideNetModel", "tick", "(I)I"⟩ ∈ wsG := List.mem_filter.mpr ⟨List.mem_append_right _ (List.mem_of_getElem? (i := 1159) (by decide +kernel)), by decide +kernel⟩
theorem wg_1160 : Cond.selects "BedsideNetModel" ⟨"BedsideNetModel", "tick", "(I)I"⟩ ⟨"BedsideNetModel", "tick", "(I)I"⟩ ∈ wsG := List.mem_filter.mpr ⟨List.mem_append_right _ (List.mem_of_getElem? (i := 1160) (by decide +kernel)), by decide +kernel⟩
theorem wg_1161 : Cond.code ⟨"BedsideNetModel", "tick", "(I)I"⟩ prog_13_method_31_code 5 (Option.some FieldType.int) ∈ wsG := List.mem_filter.mpr ⟨List.mem_append_right _ (List.mem_append_right _ (List.mem_append_right _ (List.mem_append_right _ (List.mem_append_right _ (List.mem_append_left _ (List.mem_of_getElem? (i := 201) (by rfl))))))), by rfl⟩
theorem wg_1162 : Cond.constant "BedsideNetModel" 248 1000000000 ∈ wsG := List.mem_filter.mpr ⟨List.mem_append_right _ (List.mem_of_getElem? (i := 1162) (by decide +kernel)), by decide +kernel⟩
theorem wg_1163 : Cond.methodLink "BedsideNetModel" 249 ⟨"BedsideNetModel", "knowsLoud", "(I)Z"⟩ ∈ wsG := List.mem_filter.mpr ⟨List.mem_append_right _ (List.mem_of_getElem? (i := 1163) (by decide +kernel)), by decide +kernel⟩
theorem wg_1165 : Cond.instanceMethod ⟨"BedsideNetModel", "knowsLoud", "(I)Z"⟩ ∈ wsG := List.mem_filter.mpr ⟨List.mem_append_right _ (List.mem_of_getElem? (i := 1165) (by decide +kernel)), by decide +kernel⟩
theorem wg_1166 : Cond.code ⟨"BedsideNetModel", "knowsLoud", "(I)Z"⟩ prog_13_method_30_code 4 (Option.some FieldType.boolean) ∈ wsG := List.mem_filter.mpr ⟨List.mem_append_right _ (List.mem_append_right _ (List.mem_append_right _ (List.mem_append_right _ (List.mem_append_right _ (List.mem_append_left _ (List.mem_of_getElem? (i := 206) (by rfl))))))), by rfl⟩
theorem wg_1167 : Cond.methodLink "BedsideNetModel" 252 ⟨"BedsideNetModel", "sendSounds", "(I)V"⟩ ∈ wsG := List.mem_filter.mpr ⟨List.mem_append_right _ (List.mem_of_getElem? (i := 1167) (by decide +kernel)), by decide +kernel⟩
theorem wg_1169 : Cond.instanceMethod ⟨"BedsideNetModel", "sendSounds", "(I)V"⟩ ∈ wsG := List.mem_filter.mpr ⟨List.mem_append_right _ (List.mem_of_getElem? (i := 1169) (by decide +kernel)), by decide +kernel⟩
theorem wg_1170 : Cond.code ⟨"BedsideNetModel", "sendSounds", "(I)V"⟩ prog_13_method_22_code 2 (Option.none : Option FieldType) ∈ wsG := List.mem_filter.mpr ⟨List.mem_append_right _ (List.mem_append_right _ (List.mem_append_right _ (List.mem_append_right _ (List.mem_append_right _ (List.mem_append_left _ (List.mem_of_getElem? (i := 210) (by rfl))))))), by rfl⟩
theorem wg_1171 : Cond.methodLink "BedsideNetLaw" 101 ⟨"BedsideNetModel", "carry", "(IZ)Z"⟩ ∈ wsG := List.mem_filter.mpr ⟨List.mem_append_right _ (List.mem_of_getElem? (i := 1171) (by decide +kernel)), by decide +kernel⟩
theorem wg_1172 : Cond.instanceMethod ⟨"BedsideNetModel", "carry", "(IZ)Z"⟩ ∈ wsG := List.mem_filter.mpr ⟨List.mem_append_right _ (List.mem_of_getElem? (i := 1172) (by decide +kernel)), by decide +kernel⟩
theorem wg_1173 : Cond.selects "BedsideNetModel" ⟨"BedsideNetModel", "carry", "(IZ)Z"⟩ ⟨"BedsideNetModel", "carry", "(IZ)Z"⟩ ∈ wsG := List.mem_filter.mpr ⟨List.mem_append_right _ (List.mem_of_getElem? (i := 1173) (by decide +kernel)), by decide +kernel⟩
theorem wg_1174 : Cond.code ⟨"BedsideNetModel", "carry", "(IZ)Z"⟩ prog_13_method_36_code 12 (Option.some FieldType.boolean) ∈ wsG := List.mem_filter.mpr ⟨List.mem_append_right _ (List.mem_append_right _ (List.mem_append_right _ (List.mem_append_right _ (List.mem_append_right _ (List.mem_append_left _ (List.mem_of_getElem? (i := 214) (by rfl))))))), by rfl⟩
theorem wg_1175 : Cond.methodLink "BedsideNetModel" 262 ⟨"BedsideNetModel", "find", "(I)I"⟩ ∈ wsG := List.mem_filter.mpr ⟨List.mem_append_right _ (List.mem_of_getElem? (i := 1175) (by decide +kernel)), by decide +kernel⟩
theorem wg_1177 : Cond.instanceMethod ⟨"BedsideNetModel", "find", "(I)I"⟩ ∈ wsG := List.mem_filter.mpr ⟨List.mem_append_right _ (List.mem_of_getElem? (i := 1177) (by decide +kernel)), by decide +kernel⟩
theorem wg_1178 : Cond.code ⟨"BedsideNetModel", "find", "(I)I"⟩ prog_13_method_23_code 4 (Option.some FieldType.int) ∈ wsG := List.mem_filter.mpr ⟨List.mem_append_right _ (List.mem_append_right _ (List.mem_append_right _ (List.mem_append_right _ (List.mem_append_right _ (List.mem_append_left _ (List.mem_of_getElem? (i := 218) (by rfl))))))), by rfl⟩
theorem wg_1179 : Cond.methodLink "BedsideNetModel" 265 ⟨"BedsideNetModel", "take", "(I)V"⟩ ∈ wsG := List.mem_filter.mpr ⟨List.mem_append_right _ (List.mem_of_getElem? (i := 1179) (by decide +kernel)), by decide +kernel⟩
theorem wg_1181 : Cond.instanceMethod ⟨"BedsideNetModel", "take", "(I)V"⟩ ∈ wsG := List.mem_filter.mpr ⟨List.mem_append_right _ (List.mem_of_getElem? (i := 1181) (by decide +kernel)), by decide +kernel⟩
theorem wg_1182 : Cond.code ⟨"BedsideNetModel", "take", "(I)V"⟩ prog_13_method_24_code 3 (Option.none : Option FieldType) ∈ wsG := List.mem_filter.mpr ⟨List.mem_append_right _ (List.mem_append_right _ (List.mem_append_right _ (List.mem_append_right _ (List.mem_append_right _ (List.mem_append_left _ (List.mem_of_getElem? (i := 222) (by rfl))))))), by rfl⟩
theorem wg_1183 : Cond.methodLink "BedsideNetModel" 268 ⟨"BedsideNetModel", "shows", "(IIIIII)V"⟩ ∈ wsG := List.mem_filter.mpr ⟨List.mem_append_right _ (List.mem_of_getElem? (i := 1183) (by decide +kernel)), by decide +kernel⟩
theorem wg_1185 : Cond.instanceMethod ⟨"BedsideNetModel", "shows", "(IIIIII)V"⟩ ∈ wsG := List.mem_filter.mpr ⟨List.mem_append_right _ (List.mem_of_getElem? (i := 1185) (by decide +kernel)), by decide +kernel⟩
theorem wg_1186 : Cond.code ⟨"BedsideNetModel", "shows", "(IIIIII)V"⟩ prog_13_method_32_code 8 (Option.none : Option FieldType) ∈ wsG := List.mem_filter.mpr ⟨List.mem_append_right _ (List.mem_append_right _ (List.mem_append_right _ (List.mem_append_right _ (List.mem_append_right _ (List.mem_append_left _ (List.mem_of_getElem? (i := 226) (by rfl))))))), by rfl⟩
theorem wg_1187 : Cond.methodLink "BedsideNetModel" 272 ⟨"BedsideNetModel", "knows", "(IIII)V"⟩ ∈ wsG := List.mem_filter.mpr ⟨List.mem_append_right _ (List.mem_of_getElem? (i := 1187) (by decide +kernel)), by decide +kernel⟩
theorem wg_1189 : Cond.instanceMethod ⟨"BedsideNetModel", "knows", "(IIII)V"⟩ ∈ wsG := List.mem_filter.mpr ⟨List.mem_append_right _ (List.mem_of_getElem? (i := 1189) (by decide +kernel)), by decide +kernel⟩
theorem wg_1190 : Cond.code ⟨"BedsideNetModel", "knows", "(IIII)V"⟩ prog_13_method_33_code 5 (Option.none : Option FieldType) ∈ wsG := List.mem_filter.mpr ⟨List.mem_append_right _ (List.mem_append_right _ (List.mem_append_right _ (List.mem_append_right _ (List.mem_append_right _ (List.mem_append_left _ (List.mem_of_getElem? (i := 230) (by rfl))))))), by rfl⟩
theorem wg_1191 : Cond.methodLink "BedsideNetModel" 276 ⟨"BedsideNetModel", "orders", "(III)V"⟩ ∈ wsG := List.mem_filter.mpr ⟨List.mem_append_right _ (List.mem_of_getElem? (i := 1191) (by decide +kernel)), by decide +kernel⟩
theorem wg_1193 : Cond.instanceMethod ⟨"BedsideNetModel", "orders", "(III)V"⟩ ∈ wsG := List.mem_filter.mpr ⟨List.mem_append_right _ (List.mem_of_getElem? (i := 1193) (by decide +kernel)), by decide +kernel⟩
theorem wg_1194 : Cond.code ⟨"BedsideNetModel", "orders", "(III)V"⟩ prog_13_method_35_code 4 (Option.none : Option FieldType) ∈ wsG := List.mem_filter.mpr ⟨List.mem_append_right _ (List.mem_append_right _ (List.mem_append_right _ (List.mem_append_right _ (List.mem_append_right _ (List.mem_append_left _ (List.mem_of_getElem? (i := 234) (by rfl))))))), by rfl⟩
theorem wg_1195 : Cond.methodLink "BedsideNetModel" 258 ⟨"BedsideNetModel", "judged", "(III)I"⟩ ∈ wsG := List.mem_filter.mpr ⟨List.mem_append_right _ (List.mem_of_getElem? (i := 1195) (by decide +kernel)), by decide +kernel⟩
theorem wg_1197 : Cond.instanceMethod ⟨"BedsideNetModel", "judged", "(III)I"⟩ ∈ wsG := List.mem_filter.mpr ⟨List.mem_append_right _ (List.mem_of_getElem? (i := 1197) (by decide +kernel)), by decide +kernel⟩
theorem wg_1198 : Cond.code ⟨"BedsideNetModel", "judged", "(III)I"⟩ prog_13_method_34_code 4 (Option.some FieldType.int) ∈ wsG := List.mem_filter.mpr ⟨List.mem_append_right _ (List.mem_append_right _ (List.mem_append_right _ (List.mem_append_right _ (List.mem_append_right _ (List.mem_append_left _ (List.mem_of_getElem? (i := 238) (by rfl))))))), by rfl⟩
theorem wg_1199 : Cond.methodLink "BedsideNetLaw" 105 ⟨"BedsideNetModel", "drop", "(I)Z"⟩ ∈ wsG := List.mem_filter.mpr ⟨List.mem_append_right _ (List.mem_of_getElem? (i := 1199) (by decide +kernel)), by decide +kernel⟩
theorem wg_1200 : Cond.instanceMethod ⟨"BedsideNetModel", "drop", "(I)Z"⟩ ∈ wsG := List.mem_filter.mpr ⟨List.mem_append_right _ (List.mem_of_getElem? (i := 1200) (by decide +kernel)), by decide +kernel⟩
theorem wg_1201 : Cond.selects "BedsideNetModel" ⟨"BedsideNetModel", "drop", "(I)Z"⟩ ⟨"BedsideNetModel", "drop", "(I)Z"⟩ ∈ wsG := List.mem_filter.mpr ⟨List.mem_append_right _ (List.mem_of_getElem? (i := 1201) (by decide +kernel)), by decide +kernel⟩
theorem wg_1202 : Cond.code ⟨"BedsideNetModel", "drop", "(I)Z"⟩ prog_13_method_37_code 3 (Option.some FieldType.boolean) ∈ wsG := List.mem_filter.mpr ⟨List.mem_append_right _ (List.mem_append_right _ (List.mem_append_right _ (List.mem_append_right _ (List.mem_append_right _ (List.mem_append_right _ (List.mem_of_getElem? (i := 2) (by rfl))))))), by rfl⟩
theorem wg_1203 : Cond.methodLink "BedsideNetLaw" 109 ⟨"BedsideNetModel", "bind", "(II)I"⟩ ∈ wsG := List.mem_filter.mpr ⟨List.mem_append_right _ (List.mem_of_getElem? (i := 1203) (by decide +kernel)), by decide +kernel⟩
theorem wg_1204 : Cond.instanceMethod ⟨"BedsideNetModel", "bind", "(II)I"⟩ ∈ wsG := List.mem_filter.mpr ⟨List.mem_append_right _ (List.mem_of_getElem? (i := 1204) (by decide +kernel)), by decide +kernel⟩
theorem wg_1205 : Cond.selects "BedsideNetModel" ⟨"BedsideNetModel", "bind", "(II)I"⟩ ⟨"BedsideNetModel", "bind", "(II)I"⟩ ∈ wsG := List.mem_filter.mpr ⟨List.mem_append_right _ (List.mem_of_getElem? (i := 1205) (by decide +kernel)), by decide +kernel⟩
theorem wg_1206 : Cond.code ⟨"BedsideNetModel", "bind", "(II)I"⟩ prog_13_method_38_code 6 (Option.some FieldType.int) ∈ wsG := List.mem_filter.mpr ⟨List.mem_append_right _ (List.mem_append_right _ (List.mem_append_right _ (List.mem_append_right _ (List.mem_append_right _ (List.mem_append_right _ (List.mem_of_getElem? (i := 6) (by rfl))))))), by rfl⟩
theorem wg_1207 : Cond.methodLink "BedsideNetLaw" 112 ⟨"BedsideNetModel", "shown", "(II)I"⟩ ∈ wsG := List.mem_filter.mpr ⟨List.mem_append_right _ (List.mem_of_getElem? (i := 1207) (by decide +kernel)), by decide +kernel⟩
theorem wg_1208 : Cond.instanceMethod ⟨"BedsideNetModel", "shown", "(II)I"⟩ ∈ wsG := List.mem_filter.mpr ⟨List.mem_append_right _ (List.mem_of_getElem? (i := 1208) (by decide +kernel)), by decide +kernel⟩
theorem wg_1209 : Cond.selects "BedsideNetModel" ⟨"BedsideNetModel", "shown", "(II)I"⟩ ⟨"BedsideNetModel", "shown", "(II)I"⟩ ∈ wsG := List.mem_filter.mpr ⟨List.mem_append_right _ (List.mem_of_getElem? (i := 1209) (by decide +kernel)), by decide +kernel⟩
theorem wg_1210 : Cond.code ⟨"BedsideNetModel", "shown", "(II)I"⟩ prog_13_method_39_code 4 (Option.some FieldType.int) ∈ wsG := List.mem_filter.mpr ⟨List.mem_append_right _ (List.mem_append_right _ (List.mem_append_right _ (List.mem_append_right _ (List.mem_append_right _ (List.mem_append_right _ (List.mem_of_getElem? (i := 10) (by rfl))))))), by rfl⟩
theorem wg_1211 : Cond.methodLink "BedsideNetLaw" 116 ⟨"BedsideNetModel", "acknowledge", "(II)Z"⟩ ∈ wsG := List.mem_filter.mpr ⟨List.mem_append_right _ (List.mem_of_getElem? (i := 1211) (by decide +kernel)), by decide +kernel⟩
theorem wg_1212 : Cond.instanceMethod ⟨"BedsideNetModel", "acknowledge", "(II)Z"⟩ ∈ wsG := List.mem_filter.mpr ⟨List.mem_append_right _ (List.mem_of_getElem? (i := 1212) (by decide +kernel)), by decide +kernel⟩
theorem wg_1213 : Cond.selects "BedsideNetModel" ⟨"BedsideNetModel", "acknowledge", "(II)Z"⟩ ⟨"BedsideNetModel", "acknowledge", "(II)Z"⟩ ∈ wsG := List.mem_filter.mpr ⟨List.mem_append_right _ (List.mem_of_getElem? (i := 1213) (by decide +kernel)), by decide +kernel⟩
theorem wg_1214 : Cond.code ⟨"BedsideNetModel", "acknowledge", "(II)Z"⟩ prog_13_method_40_code 3 (Option.some FieldType.boolean) ∈ wsG := List.mem_filter.mpr ⟨List.mem_append_right _ (List.mem_append_right _ (List.mem_append_right _ (List.mem_append_right _ (List.mem_append_right _ (List.mem_append_right _ (List.mem_of_getElem? (i := 14) (by rfl))))))), by rfl⟩
theorem wg_1215 : Cond.methodLink "BedsideNetLaw" 120 ⟨"BedsideNetModel", "inhibit", "(III)Z"⟩ ∈ wsG := List.mem_filter.mpr ⟨List.mem_append_right _ (List.mem_of_getElem? (i := 1215) (by decide +kernel)), by decide +kernel⟩
theorem wg_1216 : Cond.instanceMethod ⟨"BedsideNetModel", "inhibit", "(III)Z"⟩ ∈ wsG := List.mem_filter.mpr ⟨List.mem_append_right _ (List.mem_of_getElem? (i := 1216) (by decide +kernel)), by decide +kernel⟩
theorem wg_1217 : Cond.selects "BedsideNetModel" ⟨"BedsideNetModel", "inhibit", "(III)Z"⟩ ⟨"BedsideNetModel", "inhibit", "(III)Z"⟩ ∈ wsG := List.mem_filter.mpr ⟨List.mem_append_right _ (List.mem_of_getElem? (i := 1217) (by decide +kernel)), by decide +kernel⟩
theorem wg_1218 : Cond.code ⟨"BedsideNetModel", "inhibit", "(III)Z"⟩ prog_13_method_41_code 4 (Option.some FieldType.boolean) ∈ wsG := List.mem_filter.mpr ⟨List.mem_append_right _ (List.mem_append_right _ (List.mem_append_right _ (List.mem_append_right _ (List.mem_append_right _ (List.mem_append_right _ (List.mem_of_getElem? (i := 18) (by rfl))))))), by rfl⟩
theorem wg_1219 : Cond.methodLink "BedsideNetLaw" 124 ⟨"BedsideNetModel", "lease", "(II)Z"⟩ ∈ wsG := List.mem_filter.mpr ⟨List.mem_append_right _ (List.mem_of_getElem? (i := 1219) (by decide +kernel)), by decide +kernel⟩
theorem wg_1220 : Cond.instanceMethod ⟨"BedsideNetModel", "lease", "(II)Z"⟩ ∈ wsG := List.mem_filter.mpr ⟨List.mem_append_right _ (List.mem_of_getElem? (i := 1220) (by decide +kernel)), by decide +kernel⟩
theorem wg_1221 : Cond.selects "BedsideNetModel" ⟨"BedsideNetModel", "lease", "(II)Z"⟩ ⟨"BedsideNetModel", "lease", "(II)Z"⟩ ∈ wsG := List.mem_filter.mpr ⟨List.mem_append_right _ (List.mem_of_getElem? (i := 1221) (by decide +kernel)), by decide +kernel⟩
theorem wg_1222 : Cond.code ⟨"BedsideNetModel", "lease", "(II)Z"⟩ prog_13_method_44_code 3 (Option.some FieldType.boolean) ∈ wsG := List.mem_filter.mpr ⟨List.mem_append_right _ (List.mem_append_right _ (List.mem_append_right _ (List.mem_append_right _ (List.mem_append_right _ (List.mem_append_right _ (List.mem_of_getElem? (i := 22) (by rfl))))))), by rfl⟩
theorem wg_1223 : Cond.methodLink "BedsideNetModel" 280 ⟨"BedsideNetModel", "isController", "(I)Z"⟩ ∈ wsG := List.mem_filter.mpr ⟨List.mem_append_right _ (List.mem_of_getElem? (i := 1223) (by decide +kernel)), by decide +kernel⟩
theorem wg_1224 : Cond.static ⟨"BedsideNetModel", "isController", "(I)Z"⟩ ∈ wsG := List.mem_filter.mpr ⟨List.mem_append_right _ (List.mem_of_getElem? (i := 1224) (by decide +kernel)), by decide +kernel⟩
theorem wg_1225 : Cond.code ⟨"BedsideNetModel", "isController", "(I)Z"⟩ prog_13_method_42_code 1 (Option.some FieldType.boolean) ∈ wsG := List.mem_filter.mpr ⟨List.mem_append_right _ (List.mem_append_right _ (List.mem_append_right _ (List.mem_append_right _ (List.mem_append_right _ (List.mem_append_right _ (List.mem_of_getElem? (i := 25) (by rfl))))))), by rfl⟩
theorem wg_1226 : Cond.methodLink "BedsideNetModel" 283 ⟨"BedsideNetModel", "isLeased", "(I)Z"⟩ ∈ wsG := List.mem_filter.mpr ⟨List.mem_append_right _ (List.mem_of_getElem? (i := 1226) (by decide +kernel)), by decide +kernel⟩
theorem wg_1228 : Cond.instanceMethod ⟨"BedsideNetModel", "isLeased", "(I)Z"⟩ ∈ wsG := List.mem_filter.mpr ⟨List.mem_append_right _ (List.mem_of_getElem? (i := 1228) (by decide +kernel)), by decide +kernel⟩
theorem wg_1229 : Cond.code ⟨"BedsideNetModel", "isLeased", "(I)Z"⟩ prog_13_method_43_code 2 (Option.some FieldType.boolean) ∈ wsG := List.mem_filter.mpr ⟨List.mem_append_right _ (List.mem_append_right _ (List.mem_append_right _ (List.mem_append_right _ (List.mem_append_right _ (List.mem_append_right _ (List.mem_of_getElem? (i := 29) (by rfl))))))), by rfl⟩
theorem wg_1230 : Cond.methodLink "BedsideNetLaw" 128 ⟨"BedsideNetModel", "order", "(IIII)I"⟩ ∈ wsG := List.mem_filter.mpr ⟨List.mem_append_right _ (List.mem_of_getElem? (i := 1230) (by decide +kernel)), by decide +kernel⟩
theorem wg_1231 : Cond.instanceMethod ⟨"BedsideNetModel", "order", "(IIII)I"⟩ ∈ wsG := List.mem_filter.mpr ⟨List.mem_append_right _ (List.mem_of_getElem? (i := 1231) (by decide +kernel)), by decide +kernel⟩
theorem wg_1232 : Cond.selects "BedsideNetModel" ⟨"BedsideNetModel", "order", "(IIII)I"⟩ ⟨"BedsideNetModel", "order", "(IIII)I"⟩ ∈ wsG := List.mem_filter.mpr ⟨List.mem_append_right _ (List.mem_of_getElem? (i := 1232) (by decide +kernel)), by decide +kernel⟩
theorem wg_1233 : Cond.code ⟨"BedsideNetModel", "order", "(IIII)I"⟩ prog_13_method_45_code 6 (Option.some FieldType.int) ∈ wsG := List.mem_filter.mpr ⟨List.mem_append_right _ (List.mem_append_right _ (List.mem_append_right _ (List.mem_append_right _ (List.mem_append_right _ (List.mem_append_right _ (List.mem_of_getElem? (i := 33) (by rfl))))))), by rfl⟩
theorem wg_1234 : Cond.methodLink "BedsideNetLaw" 133 ⟨"BedsideNetModel", "local", "(IIZ)Z"⟩ ∈ wsG := List.mem_filter.mpr ⟨List.mem_append_right _ (List.mem_of_getElem? (i := 1234) (by decide +kernel)), by decide +kernel⟩
theorem wg_1235 : Cond.instanceMethod ⟨"BedsideNetModel", "local", "(IIZ)Z"⟩ ∈ wsG := List.mem_filter.mpr ⟨List.mem_append_right _ (List.mem_of_getElem? (i := 1235) (by decide +kernel)), by decide +kernel⟩
theorem wg_1236 : Cond.selects "BedsideNetModel" ⟨"BedsideNetModel", "local", "(IIZ)Z"⟩ ⟨"BedsideNetModel", "local", "(IIZ)Z"⟩ ∈ wsG := List.mem_filter.mpr ⟨List.mem_append_right _ (List.mem_of_getElem? (i := 1236) (by decide +kernel)), by decide +kernel⟩
theorem wg_1237 : Cond.code ⟨"BedsideNetModel", "local", "(IIZ)Z"⟩ prog_13_method_46_code 4 (Option.some FieldType.boolean) ∈ wsG := List.mem_filter.mpr ⟨List.mem_append_right _ (List.mem_append_right _ (List.mem_append_right _ (List.mem_append_right _ (List.mem_append_right _ (List.mem_append_right _ (List.mem_of_getElem? (i := 37) (by rfl))))))), by rfl⟩
theorem wg_1238 : Cond.methodLink "BedsideNetLaw" 137 ⟨"BedsideNetModel", "restart", "(I)Z"⟩ ∈ wsG := List.mem_filter.mpr ⟨List.mem_append_right _ (List.mem_of_getElem? (i := 1238) (by decide +kernel)), by decide +kernel⟩
theorem wg_1239 : Cond.instanceMethod ⟨"BedsideNetModel", "restart", "(I)Z"⟩ ∈ wsG := List.mem_filter.mpr ⟨List.mem_append_right _ (List.mem_of_getElem? (i := 1239) (by decide +kernel)), by decide +kernel⟩
theorem wg_1240 : Cond.selects "BedsideNetModel" ⟨"BedsideNetModel", "restart", "(I)Z"⟩ ⟨"BedsideNetModel", "restart", "(I)Z"⟩ ∈ wsG := List.mem_filter.mpr ⟨List.mem_append_right _ (List.mem_of_getElem? (i := 1240) (by decide +kernel)), by decide +kernel⟩
theorem wg_1241 : Cond.code ⟨"BedsideNetModel", "restart", "(I)Z"⟩ prog_13_method_47_code 2 (Option.some FieldType.boolean) ∈ wsG := List.mem_filter.mpr ⟨List.mem_append_right _ (List.mem_append_right _ (List.mem_append_right _ (List.mem_append_right _ (List.mem_append_right _ (List.mem_append_right _ (List.mem_of_getElem? (i := 41) (by rfl))))))), by rfl⟩
theorem wg_1242 : Cond.methodLink "BedsideNetLaw" 140 ⟨"BedsideNetModel", "look", "(II)I"⟩ ∈ wsG := List.mem_filter.mpr ⟨List.mem_append_right _ (List.mem_of_getElem? (i := 1242) (by decide +kernel)), by decide +kernel⟩
theorem wg_1243 : Cond.instanceMethod ⟨"BedsideNetModel", "look", "(II)I"⟩ ∈ wsG := List.mem_filter.mpr ⟨List.mem_append_right _ (List.mem_of_getElem? (i := 1243) (by decide +kernel)), by decide +kernel⟩
theorem wg_1244 : Cond.selects "BedsideNetModel" ⟨"BedsideNetModel", "look", "(II)I"⟩ ⟨"BedsideNetModel", "look", "(II)I"⟩ ∈ wsG := List.mem_filter.mpr ⟨List.mem_append_right _ (List.mem_of_getElem? (i := 1244) (by decide +kernel)), by decide +kernel⟩
theorem wg_1245 : Cond.code ⟨"BedsideNetModel", "look", "(II)I"⟩ prog_13_method_51_code 4 (Option.some FieldType.int) ∈ wsG := List.mem_filter.mpr ⟨List.mem_append_right _ (List.mem_append_right _ (List.mem_append_right _ (List.mem_append_right _ (List.mem_append_right _ (List.mem_append_right _ (List.mem_of_getElem? (i := 45) (by rfl))))))), by rfl⟩
theorem wg_1246 : Cond.methodLink "BedsideNetModel" 291 ⟨"BedsideNetModel", "isLoud", "(I)Z"⟩ ∈ wsG := List.mem_filter.mpr ⟨List.mem_append_right _ (List.mem_of_getElem? (i := 1246) (by decide +kernel)), by decide +kernel⟩
theorem wg_1248 : Cond.instanceMethod ⟨"BedsideNetModel", "isLoud", "(I)Z"⟩ ∈ wsG := List.mem_filter.mpr ⟨List.mem_append_right _ (List.mem_of_getElem? (i := 1248) (by decide +kernel)), by decide +kernel⟩
theorem wg_1249 : Cond.code ⟨"BedsideNetModel", "isLoud", "(I)Z"⟩ prog_13_method_48_code 4 (Option.some FieldType.boolean) ∈ wsG := List.mem_filter.mpr ⟨List.mem_append_right _ (List.mem_append_right _ (List.mem_append_right _ (List.mem_append_right _ (List.mem_append_right _ (List.mem_append_right _ (List.mem_of_getElem? (i := 49) (by rfl))))))), by rfl⟩
theorem wg_1250 : Cond.methodLink "BedsideNetModel" 294 ⟨"BedsideNetModel", "lookChannel", "(II)I"⟩ ∈ wsG := List.mem_filter.mpr ⟨List.mem_append_right _ (List.mem_of_getElem? (i := 1250) (by decide +kernel)), by decide +kernel⟩
theorem wg_1252 : Cond.instanceMethod ⟨"BedsideNetModel", "lookChannel", "(II)I"⟩ ∈ wsG := List.mem_filter.mpr ⟨List.mem_append_right _ (List.mem_of_getElem? (i := 1252) (by decide +kernel)), by decide +kernel⟩
theorem wg_1253 : Cond.code ⟨"BedsideNetModel", "lookChannel", "(II)I"⟩ prog_13_method_50_code 5 (Option.some FieldType.int) ∈ wsG := List.mem_filter.mpr ⟨List.mem_append_right _ (List.mem_append_right _ (List.mem_append_right _ (List.mem_append_right _ (List.mem_append_right _ (List.mem_append_right _ (List.mem_of_getElem? (i := 53) (by rfl))))))), by rfl⟩
theorem wg_1254 : Cond.methodLink "BedsideNetModel" 288 ⟨"BedsideNetModel", "levelOf", "(I)I"⟩ ∈ wsG := List.mem_filter.mpr ⟨List.mem_append_right _ (List.mem_of_getElem? (i := 1254) (by decide +kernel)), by decide +kernel⟩
theorem wg_1256 : Cond.instanceMethod ⟨"BedsideNetModel", "levelOf", "(I)I"⟩ ∈ wsG := List.mem_filter.mpr ⟨List.mem_append_right _ (List.mem_of_getElem? (i := 1256) (by decide +kernel)), by decide +kernel⟩
theorem wg_1257 : Cond.code ⟨"BedsideNetModel", "levelOf", "(I)I"⟩ prog_13_method_49_code 4 (Option.some FieldType.int) ∈ wsG := List.mem_filter.mpr ⟨List.mem_append_right _ (List.mem_append_right _ (List.mem_append_right _ (List.mem_append_right _ (List.mem_append_right _ (List.mem_append_right _ (List.mem_of_getElem? (i := 57) (by rfl))))))), by rfl⟩
theorem wg_1258 : Cond.methodLink "BedsideNetLaw" 143 ⟨"BedsideNetModel", "message", "(II)I"⟩ ∈ wsG := List.mem_filter.mpr ⟨List.mem_append_right _ (List.mem_of_getElem? (i := 1258) (by decide +kernel)), by decide +kernel⟩
theorem wg_1259 : Cond.instanceMethod ⟨"BedsideNetModel", "message", "(II)I"⟩ ∈ wsG := List.mem_filter.mpr ⟨List.mem_append_right _ (List.mem_of_getElem? (i := 1259) (by decide +kernel)), by decide +kernel⟩
theorem wg_1260 : Cond.selects "BedsideNetModel" ⟨"BedsideNetModel", "message", "(II)I"⟩ ⟨"BedsideNetModel", "message", "(II)I"⟩ ∈ wsG := List.mem_filter.mpr ⟨List.mem_append_right _ (List.mem_of_getElem? (i := 1260) (by decide +kernel)), by decide +kernel⟩
theorem wg_1261 : Cond.code ⟨"BedsideNetModel", "message", "(II)I"⟩ prog_13_method_52_code 4 (Option.some FieldType.int) ∈ wsG := List.mem_filter.mpr ⟨List.mem_append_right _ (List.mem_append_right _ (List.mem_append_right _ (List.mem_append_right _ (List.mem_append_right _ (List.mem_append_right _ (List.mem_of_getElem? (i := 61) (by rfl))))))), by rfl⟩
theorem wg_1262 : Cond.methodLink "BedsideNetLaw" 147 ⟨"BedsideNetModel", "count", "(I)I"⟩ ∈ wsG := List.mem_filter.mpr ⟨List.mem_append_right _ (List.mem_of_getElem? (i := 1262) (by decide +kernel)), by decide +kernel⟩
theorem wg_1263 : Cond.instanceMethod ⟨"BedsideNetModel", "count", "(I)I"⟩ ∈ wsG := List.mem_filter.mpr ⟨List.mem_append_right _ (List.mem_of_getElem? (i := 1263) (by decide +kernel)), by decide +kernel⟩
theorem wg_1264 : Cond.selects "BedsideNetModel" ⟨"BedsideNetModel", "count", "(I)I"⟩ ⟨"BedsideNetModel", "count", "(I)I"⟩ ∈ wsG := List.mem_filter.mpr ⟨List.mem_append_right _ (List.mem_of_getElem? (i := 1264) (by decide +kernel)), by decide +kernel⟩
theorem wg_1265 : Cond.code ⟨"BedsideNetModel", "count", "(I)I"⟩ prog_13_method_53_code 4 (Option.some FieldType.int) ∈ wsG := List.mem_filter.mpr ⟨List.mem_append_right _ (List.mem_append_right _ (List.mem_append_right _ (List.mem_append_right _ (List.mem_append_right _ (List.mem_append_right _ (List.mem_of_getElem? (i := 65) (by rfl))))))), by rfl⟩
theorem wg_1266 : Cond.arrayClass FieldType.long ∈ wsG := List.mem_filter.mpr ⟨List.mem_append_right _ (List.mem_of_getElem? (i := 1266) (by decide +kernel)), by decide +kernel⟩
theorem ws_0 : Cond.selects "BedsideNet$Device" ⟨"BedsideNet$Device", "begin", "(I)V"⟩ ⟨"BedsideNet$Device", "begin", "(I)V"⟩ ∈ wsG := List.mem_filter.mpr ⟨List.mem_append_left _ (List.mem_of_getElem? (i := 0) (by decide +kernel)), by decide +kernel⟩
theorem ws_1 : Cond.selects "BedsideNet" ⟨"BedsideNet", "isOpen", "(I)Z"⟩ ⟨"BedsideNet", "isOpen", "(I)Z"⟩ ∈ wsG := List.mem_filter.mpr ⟨List.mem_append_left _ (List.mem_of_getElem? (i := 1) (by decide +kernel)), by decide +kernel⟩
theorem ws_2 : Cond.selects "BedsideNet$Device" ⟨"BedsideNet$Device", "hasChannel", "(I)Z"⟩ ⟨"BedsideNet$Device", "hasChannel", "(I)Z"⟩ ∈ wsG := List.mem_filter.mpr ⟨List.mem_append_left _ (List.mem_of_getElem? (i := 2) (by decide +kernel)), by decide +kernel⟩
theorem ws_3 : Cond.selects "BedsideNet$Alarm" ⟨"BedsideNet$Alarm", "describe", "(III)V"⟩ ⟨"BedsideNet$Alarm", "describe", "(III)V"⟩ ∈ wsG := List.mem_filter.mpr ⟨List.mem_append_left _ (List.mem_of_getElem? (i := 3) (by decide +kernel)), by decide +kernel⟩
theorem ws_4 : Cond.selects "BedsideNet$Setting" ⟨"BedsideNet$Setting", "describe", "(III)V"⟩ ⟨"BedsideNet$Setting", "describe", "(III)V"⟩ ∈ wsG := List.mem_filter.mpr ⟨List.mem_append_left _ (List.mem_of_getElem? (i := 4) (by decide +kernel)), by decide +kernel⟩
theorem ws_5 : Cond.selects "BedsideNet$Range" ⟨"BedsideNet$Range", "set", "(III)V"⟩ ⟨"BedsideNet$Range", "set", "(III)V"⟩ ∈ wsG := List.mem_filter.mpr ⟨List.mem_append_left _ (List.mem_of_getElem? (i := 5) (by decide +kernel)), by decide +kernel⟩
theorem ws_6 : Cond.selects "BedsideNet" ⟨"BedsideNet", "isSealed", "(I)Z"⟩ ⟨"BedsideNet", "isSealed", "(I)Z"⟩ ∈ wsG := List.mem_filter.mpr ⟨List.mem_append_left _ (List.mem_of_getElem? (i := 6) (by decide +kernel)), by decide +kernel⟩
theorem ws_7 : Cond.selects "BedsideNet$Device" ⟨"BedsideNet$Device", "tie", "(I)V"⟩ ⟨"BedsideNet$Device", "tie", "(I)V"⟩ ∈ wsG := List.mem_filter.mpr ⟨List.mem_append_left _ (List.mem_of_getElem? (i := 7) (by decide +kernel)), by decide +kernel⟩
theorem ws_8 : Cond.selects "BedsideNet$Range" ⟨"BedsideNet$Range", "fits", "(I)Z"⟩ ⟨"BedsideNet$Range", "fits", "(I)Z"⟩ ∈ wsG := List.mem_filter.mpr ⟨List.mem_append_left _ (List.mem_of_getElem? (i := 8) (by decide +kernel)), by decide +kernel⟩
theorem ws_9 : Cond.selects "BedsideNet$Channel" ⟨"BedsideNet$Channel", "measure", "(II)V"⟩ ⟨"BedsideNet$Channel", "measure", "(II)V"⟩ ∈ wsG := List.mem_filter.mpr ⟨List.mem_append_left _ (List.mem_of_getElem? (i := 9) (by decide +kernel)), by decide +kernel⟩
theorem ws_10 : Cond.selects "BedsideNet$Alarm" ⟨"BedsideNet$Alarm", "watch", "(II)V"⟩ ⟨"BedsideNet$Alarm", "watch", "(II)V"⟩ ∈ wsG := List.mem_filter.mpr ⟨List.mem_append_left _ (List.mem_of_getElem? (i := 10) (by decide +kernel)), by decide +kernel⟩
theorem ws_11 : Cond.selects "BedsideNet" ⟨"BedsideNet", "sendValue", "(II)V"⟩ ⟨"BedsideNet", "sendValue", "(II)V"⟩ ∈ wsG := List.mem_filter.mpr ⟨List.mem_append_left _ (List.mem_of_getElem? (i := 11) (by decide +kernel)), by decide +kernel⟩
theorem ws_12 : Cond.selects "BedsideNet$Post" ⟨"BedsideNet$Post", "send", "(IIIIIII)V"⟩ ⟨"BedsideNet$Post", "send", "(IIIIIII)V"⟩ ∈ wsG := List.mem_filter.mpr ⟨List.mem_append_left _ (List.mem_of_getElem? (i := 12) (by decide +kernel)), by decide +kernel⟩
theorem ws_13 : Cond.selects "BedsideNet" ⟨"BedsideNet", "settleAlarms", "()V"⟩ ⟨"BedsideNet", "settleAlarms", "()V"⟩ ∈ wsG := List.mem_filter.mpr ⟨List.mem_append_left _ (List.mem_of_getElem? (i := 13) (by decide +kernel)), by decide +kernel⟩
theorem ws_14 : Cond.selects "BedsideNet$Alarm" ⟨"BedsideNet$Alarm", "settle", "(I)Z"⟩ ⟨"BedsideNet$Alarm", "settle", "(I)Z"⟩ ∈ wsG := List.mem_filter.mpr ⟨List.mem_append_left _ (List.mem_of_getElem? (i := 14) (by decide +kernel)), by decide +kernel⟩
theorem ws_15 : Cond.selects "BedsideNet" ⟨"BedsideNet", "send", "(IIII)V"⟩ ⟨"BedsideNet", "send", "(IIII)V"⟩ ∈ wsG := List.mem_filter.mpr ⟨List.mem_append_left _ (List.mem_of_getElem? (i := 15) (by decide +kernel)), by decide +kernel⟩
theorem ws_16 : Cond.selects "BedsideNet$Post" ⟨"BedsideNet$Post", "indexOf", "(I)I"⟩ ⟨"BedsideNet$Post", "indexOf", "(I)I"⟩ ∈ wsG := List.mem_filter.mpr ⟨List.mem_append_left _ (List.mem_of_getElem? (i := 16) (by decide +kernel)), by decide +kernel⟩
theorem ws_17 : Cond.selects "BedsideNet$Message" ⟨"BedsideNet$Message", "copy", "(LBedsideNet$Message;)V"⟩ ⟨"BedsideNet$Message", "copy", "(LBedsideNet$Message;)V"⟩ ∈ wsG := List.mem_filter.mpr ⟨List.mem_append_left _ (List.mem_of_getElem? (i := 17) (by decide +kernel)), by decide +kernel⟩
theorem ws_18 : Cond.selects "BedsideNet$Post" ⟨"BedsideNet$Post", "remove", "(I)V"⟩ ⟨"BedsideNet$Post", "remove", "(I)V"⟩ ∈ wsG := List.mem_filter.mpr ⟨List.mem_append_left _ (List.mem_of_getElem? (i := 18) (by decide +kernel)), by decide +kernel⟩
theorem ws_19 : Cond.selects "BedsideNet" ⟨"BedsideNet", "deliver", "()V"⟩ ⟨"BedsideNet", "deliver", "()V"⟩ ∈ wsG := List.mem_filter.mpr ⟨List.mem_append_left _ (List.mem_of_getElem? (i := 19) (by decide +kernel)), by decide +kernel⟩
theorem ws_20 : Cond.selects "BedsideNet" ⟨"BedsideNet", "takeOrder", "(LBedsideNet$Device;)V"⟩ ⟨"BedsideNet", "takeOrder", "(LBedsideNet$Device;)V"⟩ ∈ wsG := List.mem_filter.mpr ⟨List.mem_append_left _ (List.mem_of_getElem? (i := 20) (by decide +kernel)), by decide +kernel⟩
theorem ws_21 : Cond.selects "BedsideNet" ⟨"BedsideNet", "judge", "(LBedsideNet$Order;LBedsideNet$Device;)I"⟩ ⟨"BedsideNet", "judge", "(LBedsideNet$Order;LBedsideNet$Device;)I"⟩ ∈ wsG := List.mem_filter.mpr ⟨List.mem_append_left _ (List.mem_of_getElem? (i := 21) (by decide +kernel)), by decide +kernel⟩
theorem ws_22 : Cond.selects "BedsideNet$Setting" ⟨"BedsideNet$Setting", "holderAt", "(I)I"⟩ ⟨"BedsideNet$Setting", "holderAt", "(I)I"⟩ ∈ wsG := List.mem_filter.mpr ⟨List.mem_append_left _ (List.mem_of_getElem? (i := 22) (by decide +kernel)), by decide +kernel⟩
theorem ws_23 : Cond.selects "BedsideNet" ⟨"BedsideNet", "deliverWithinLife", "(LBedsideNet$Device;)V"⟩ ⟨"BedsideNet", "deliverWithinLife", "(LBedsideNet$Device;)V"⟩ ∈ wsG := List.mem_filter.mpr ⟨List.mem_append_left _ (List.mem_of_getElem? (i := 23) (by decide +kernel)), by decide +kernel⟩
theorem ws_24 : Cond.selects "BedsideNet$Display" ⟨"BedsideNet$Display", "hear", "(LBedsideNet$Message;I)V"⟩ ⟨"BedsideNet$Display", "hear", "(LBedsideNet$Message;I)V"⟩ ∈ wsG := List.mem_filter.mpr ⟨List.mem_append_left _ (List.mem_of_getElem? (i := 24) (by decide +kernel)), by decide +kernel⟩
theorem ws_25 : Cond.selects "BedsideNet" ⟨"BedsideNet", "learnAlarm", "(LBedsideNet$Known;)V"⟩ ⟨"BedsideNet", "learnAlarm", "(LBedsideNet$Known;)V"⟩ ∈ wsG := List.mem_filter.mpr ⟨List.mem_append_left _ (List.mem_of_getElem? (i := 25) (by decide +kernel)), by decide +kernel⟩
theorem ws_26 : Cond.selects "BedsideNet$Known" ⟨"BedsideNet$Known", "learn", "(IZ)V"⟩ ⟨"BedsideNet$Known", "learn", "(IZ)V"⟩ ∈ wsG := List.mem_filter.mpr ⟨List.mem_append_left _ (List.mem_of_getElem? (i := 26) (by decide +kernel)), by decide +kernel⟩
theorem ws_27 : Cond.selects "BedsideNet" ⟨"BedsideNet", "sendSounds", "(I)V"⟩ ⟨"BedsideNet", "sendSounds", "(I)V"⟩ ∈ wsG := List.mem_filter.mpr ⟨List.mem_append_left _ (List.mem_of_getElem? (i := 27) (by decide +kernel)), by decide +kernel⟩
theorem ws_28 : Cond.selects "BedsideNet$Alarm" ⟨"BedsideNet$Alarm", "hush", "()V"⟩ ⟨"BedsideNet$Alarm", "hush", "()V"⟩ ∈ wsG := List.mem_filter.mpr ⟨List.mem_append_left _ (List.mem_of_getElem? (i := 28) (by decide +kernel)), by decide +kernel⟩
theorem ws_29 : Cond.selects "BedsideNet$Known" ⟨"BedsideNet$Known", "sounds", "()Z"⟩ ⟨"BedsideNet$Known", "sounds", "()Z"⟩ ∈ wsG := List.mem_filter.mpr ⟨List.mem_append_left _ (List.mem_of_getElem? (i := 29) (by decide +kernel)), by decide +kernel⟩
theorem ws_30 : Cond.selects "BedsideNet" ⟨"BedsideNet", "isSettable", "(I)Z"⟩ ⟨"BedsideNet", "isSettable", "(I)Z"⟩ ∈ wsG := List.mem_filter.mpr ⟨List.mem_append_left _ (List.mem_of_getElem? (i := 30) (by decide +kernel)), by decide +kernel⟩
theorem ws_31 : Cond.selects "BedsideNet$Device" ⟨"BedsideNet$Device", "beginLife", "()V"⟩ ⟨"BedsideNet$Device", "beginLife", "()V"⟩ ∈ wsG := List.mem_filter.mpr ⟨List.mem_append_left _ (List.mem_of_getElem? (i := 31) (by decide +kernel)), by decide +kernel⟩
theorem ws_32 : Cond.selects "BedsideNet$Channel" ⟨"BedsideNet$Channel", "forget", "()V"⟩ ⟨"BedsideNet$Channel", "forget", "()V"⟩ ∈ wsG := List.mem_filter.mpr ⟨List.mem_append_left _ (List.mem_of_getElem? (i := 32) (by decide +kernel)), by decide +kernel⟩
theorem ws_33 : Cond.selects "BedsideNet$Alarm" ⟨"BedsideNet$Alarm", "forget", "()V"⟩ ⟨"BedsideNet$Alarm", "forget", "()V"⟩ ∈ wsG := List.mem_filter.mpr ⟨List.mem_append_left _ (List.mem_of_getElem? (i := 33) (by decide +kernel)), by decide +kernel⟩
theorem ws_34 : Cond.selects "BedsideNet" ⟨"BedsideNet", "stationSounds", "()Z"⟩ ⟨"BedsideNet", "stationSounds", "()Z"⟩ ∈ wsG := List.mem_filter.mpr ⟨List.mem_append_left _ (List.mem_of_getElem? (i := 34) (by decide +kernel)), by decide +kernel⟩
theorem ws_35 : Cond.selects "BedsideNet$Device" ⟨"BedsideNet$Device", "soundsAtStation", "()Z"⟩ ⟨"BedsideNet$Device", "soundsAtStation", "()Z"⟩ ∈ wsG := List.mem_filter.mpr ⟨List.mem_append_left _ (List.mem_of_getElem? (i := 35) (by decide +kernel)), by decide +kernel⟩
theorem ws_36 : Cond.selects "java/lang/Throwable" ⟨"java/lang/Throwable", "fillInStackTrace", "(I)Ljava/lang/Throwable;"⟩ ⟨"java/lang/Throwable", "fillInStackTrace", "(I)Ljava/lang/Throwable;"⟩ ∈ wsG := List.mem_filter.mpr ⟨List.mem_append_left _ (List.mem_of_getElem? (i := 36) (by decide +kernel)), by decide +kernel⟩
theorem ws_37 : Cond.selects "BedsideNet$Channel" ⟨"BedsideNet$Channel", "begin", "(IIII)V"⟩ ⟨"BedsideNet$Channel", "begin", "(IIII)V"⟩ ∈ wsG := List.mem_filter.mpr ⟨List.mem_append_left _ (List.mem_of_getElem? (i := 37) (by decide +kernel)), by decide +kernel⟩
theorem ws_38 : Cond.selects "BedsideNet" ⟨"BedsideNet", "repeatValues", "()V"⟩ ⟨"BedsideNet", "repeatValues", "()V"⟩ ∈ wsG := List.mem_filter.mpr ⟨List.mem_append_left _ (List.mem_of_getElem? (i := 38) (by decide +kernel)), by decide +kernel⟩
theorem ws_39 : Cond.selects "BedsideNet" ⟨"BedsideNet", "repeatSounds", "()V"⟩ ⟨"BedsideNet", "repeatSounds", "()V"⟩ ∈ wsG := List.mem_filter.mpr ⟨List.mem_append_left _ (List.mem_of_getElem? (i := 39) (by decide +kernel)), by decide +kernel⟩
theorem ws_40 : Cond.selects "BedsideNet" ⟨"BedsideNet", "leastDeviceWith", "(II)I"⟩ ⟨"BedsideNet", "leastDeviceWith", "(II)I"⟩ ∈ wsG := List.mem_filter.mpr ⟨List.mem_append_left _ (List.mem_of_getElem? (i := 40) (by decide +kernel)), by decide +kernel⟩
theorem ws_41 : Cond.selects "BedsideNet$Device" ⟨"BedsideNet$Device", "leastChannelWith", "(I)I"⟩ ⟨"BedsideNet$Device", "leastChannelWith", "(I)I"⟩ ∈ wsG := List.mem_filter.mpr ⟨List.mem_append_left _ (List.mem_of_getElem? (i := 41) (by decide +kernel)), by decide +kernel⟩
theorem ws_42 : Cond.selects "BedsideNet$Display" ⟨"BedsideNet$Display", "attach", "(IIII)V"⟩ ⟨"BedsideNet$Display", "attach", "(IIII)V"⟩ ∈ wsG := List.mem_filter.mpr ⟨List.mem_append_left _ (List.mem_of_getElem? (i := 42) (by decide +kernel)), by decide +kernel⟩
theorem ws_43 : Cond.selects "BedsideNet$Order" ⟨"BedsideNet$Order", "write", "(III)V"⟩ ⟨"BedsideNet$Order", "write", "(III)V"⟩ ∈ wsG := List.mem_filter.mpr ⟨List.mem_append_left _ (List.mem_of_getElem? (i := 43) (by decide +kernel)), by decide +kernel⟩
theorem ws_44 : Cond.selects "BedsideNet" ⟨"BedsideNet", "deviceFact", "(LBedsideNet$Device;I)I"⟩ ⟨"BedsideNet", "deviceFact", "(LBedsideNet$Device;I)I"⟩ ∈ wsG := List.mem_filter.mpr ⟨List.mem_append_left _ (List.mem_of_getElem? (i := 44) (by decide +kernel)), by decide +kernel⟩
theorem ws_45 : Cond.selects "BedsideNet$Device" ⟨"BedsideNet$Device", "soundsAt", "(I)Z"⟩ ⟨"BedsideNet$Device", "soundsAt", "(I)Z"⟩ ∈ wsG := List.mem_filter.mpr ⟨List.mem_append_left _ (List.mem_of_getElem? (i := 45) (by decide +kernel)), by decide +kernel⟩
theorem ws_46 : Cond.selects "BedsideNet$Alarm" ⟨"BedsideNet$Alarm", "isLoud", "()Z"⟩ ⟨"BedsideNet$Alarm", "isLoud", "()Z"⟩ ∈ wsG := List.mem_filter.mpr ⟨List.mem_append_left _ (List.mem_of_getElem? (i := 46) (by decide +kernel)), by decide +kernel⟩
theorem ws_47 : Cond.selects "BedsideNet" ⟨"BedsideNet", "channelFact", "(LBedsideNet$Channel;I)I"⟩ ⟨"BedsideNet", "channelFact", "(LBedsideNet$Channel;I)I"⟩ ∈ wsG := List.mem_filter.mpr ⟨List.mem_append_left _ (List.mem_of_getElem? (i := 47) (by decide +kernel)), by decide +kernel⟩
theorem ws_48 : Cond.selects "BedsideNet$Alarm" ⟨"BedsideNet$Alarm", "standing", "()I"⟩ ⟨"BedsideNet$Alarm", "standing", "()I"⟩ ∈ wsG := List.mem_filter.mpr ⟨List.mem_append_left _ (List.mem_of_getElem? (i := 48) (by decide +kernel)), by decide +kernel⟩
theorem ws_49 : Cond.selects "BedsideNet$Alarm" ⟨"BedsideNet$Alarm", "levelAt", "(I)I"⟩ ⟨"BedsideNet$Alarm", "levelAt", "(I)I"⟩ ∈ wsG := List.mem_filter.mpr ⟨List.mem_append_left _ (List.mem_of_getElem? (i := 49) (by decide +kernel)), by decide +kernel⟩
theorem ws_50 : Cond.selects "BedsideNet$Known" ⟨"BedsideNet$Known", "standing", "()I"⟩ ⟨"BedsideNet$Known", "standing", "()I"⟩ ∈ wsG := List.mem_filter.mpr ⟨List.mem_append_left _ (List.mem_of_getElem? (i := 50) (by decide +kernel)), by decide +kernel⟩
theorem ws_51 : Cond.selects "BedsideNet$Message" ⟨"BedsideNet$Message", "fact", "(I)I"⟩ ⟨"BedsideNet$Message", "fact", "(I)I"⟩ ∈ wsG := List.mem_filter.mpr ⟨List.mem_append_left _ (List.mem_of_getElem? (i := 51) (by decide +kernel)), by decide +kernel⟩
theorem ws_52 : Cond.selects "BedsideNetModel" ⟨"BedsideNetModel", "forget", "(I)V"⟩ ⟨"BedsideNetModel", "forget", "(I)V"⟩ ∈ wsG := List.mem_filter.mpr ⟨List.mem_append_left _ (List.mem_of_getElem? (i := 52) (by decide +kernel)), by decide +kernel⟩
theorem ws_53 : Cond.selects "BedsideNetModel" ⟨"BedsideNetModel", "isAt", "(II)Z"⟩ ⟨"BedsideNetModel", "isAt", "(II)Z"⟩ ∈ wsG := List.mem_filter.mpr ⟨List.mem_append_left _ (List.mem_of_getElem? (i := 53) (by decide +kernel)), by decide +kernel⟩
theorem ws_54 : Cond.selects "BedsideNetModel" ⟨"BedsideNetModel", "isChannel", "(II)Z"⟩ ⟨"BedsideNetModel", "isChannel", "(II)Z"⟩ ∈ wsG := List.mem_filter.mpr ⟨List.mem_append_left _ (List.mem_of_getElem? (i := 54) (by decide +kernel)), by decide +kernel⟩
theorem ws_55 : Cond.selects "BedsideNetModel" ⟨"BedsideNetModel", "untie", "(I)V"⟩ ⟨"BedsideNetModel", "untie", "(I)V"⟩ ∈ wsG := List.mem_filter.mpr ⟨List.mem_append_left _ (List.mem_of_getElem? (i := 55) (by decide +kernel)), by decide +kernel⟩
theorem ws_56 : Cond.selects "BedsideNetModel" ⟨"BedsideNetModel", "settle", "()V"⟩ ⟨"BedsideNetModel", "settle", "()V"⟩ ∈ wsG := List.mem_filter.mpr ⟨List.mem_append_left _ (List.mem_of_getElem? (i := 56) (by decide +kernel)), by decide +kernel⟩
theorem ws_57 : Cond.selects "BedsideNetModel" ⟨"BedsideNetModel", "isSo", "(I)Z"⟩ ⟨"BedsideNetModel", "isSo", "(I)Z"⟩ ∈ wsG := List.mem_filter.mpr ⟨List.mem_append_left _ (List.mem_of_getElem? (i := 57) (by decide +kernel)), by decide +kernel⟩
theorem ws_58 : Cond.selects "BedsideNetModel" ⟨"BedsideNetModel", "isAbove", "(I)Z"⟩ ⟨"BedsideNetModel", "isAbove", "(I)Z"⟩ ∈ wsG := List.mem_filter.mpr ⟨List.mem_append_left _ (List.mem_of_getElem? (i := 58) (by decide +kernel)), by decide +kernel⟩
theorem ws_59 : Cond.selects "BedsideNetModel" ⟨"BedsideNetModel", "since", "(I)I"⟩ ⟨"BedsideNetModel", "since", "(I)I"⟩ ∈ wsG := List.mem_filter.mpr ⟨List.mem_append_left _ (List.mem_of_getElem? (i := 59) (by decide +kernel)), by decide +kernel⟩
theorem ws_60 : Cond.selects "BedsideNetModel" ⟨"BedsideNetModel", "send", "(IIIII)V"⟩ ⟨"BedsideNetModel", "send", "(IIIII)V"⟩ ∈ wsG := List.mem_filter.mpr ⟨List.mem_append_left _ (List.mem_of_getElem? (i := 60) (by decide +kernel)), by decide +kernel⟩
theorem ws_61 : Cond.selects "BedsideNetModel" ⟨"BedsideNetModel", "sendValue", "(II)V"⟩ ⟨"BedsideNetModel", "sendValue", "(II)V"⟩ ∈ wsG := List.mem_filter.mpr ⟨List.mem_append_left _ (List.mem_of_getElem? (i := 61) (by decide +kernel)), by decide +kernel⟩
theorem ws_62 : Cond.selects "BedsideNetModel" ⟨"BedsideNetModel", "knowsLoud", "(I)Z"⟩ ⟨"BedsideNetModel", "knowsLoud", "(I)Z"⟩ ∈ wsG := List.mem_filter.mpr ⟨List.mem_append_left _ (List.mem_of_getElem? (i := 62) (by decide +kernel)), by decide +kernel⟩
theorem ws_63 : Cond.selects "BedsideNetModel" ⟨"BedsideNetModel", "sendSounds", "(I)V"⟩ ⟨"BedsideNetModel", "sendSounds", "(I)V"⟩ ∈ wsG := List.mem_filter.mpr ⟨List.mem_append_left _ (List.mem_of_getElem? (i := 63) (by decide +kernel)), by decide +kernel⟩
theorem ws_64 : Cond.selects "BedsideNetModel" ⟨"BedsideNetModel", "find", "(I)I"⟩ ⟨"BedsideNetModel", "find", "(I)I"⟩ ∈ wsG := List.mem_filter.mpr ⟨List.mem_append_left _ (List.mem_of_getElem? (i := 64) (by decide +kernel)), by decide +kernel⟩
theorem ws_65 : Cond.selects "BedsideNetModel" ⟨"BedsideNetModel", "take", "(I)V"⟩ ⟨"BedsideNetModel", "take", "(I)V"⟩ ∈ wsG := List.mem_filter.mpr ⟨List.mem_append_left _ (List.mem_of_getElem? (i := 65) (by decide +kernel)), by decide +kernel⟩
theorem ws_66 : Cond.selects "BedsideNetModel" ⟨"BedsideNetModel", "shows", "(IIIIII)V"⟩ ⟨"BedsideNetModel", "shows", "(IIIIII)V"⟩ ∈ wsG := List.mem_filter.mpr ⟨List.mem_append_left _ (List.mem_of_getElem? (i := 66) (by decide +kernel)), by decide +kernel⟩
theorem ws_67 : Cond.selects "BedsideNetModel" ⟨"BedsideNetModel", "knows", "(IIII)V"⟩ ⟨"BedsideNetModel", "knows", "(IIII)V"⟩ ∈ wsG := List.mem_filter.mpr ⟨List.mem_append_left _ (List.mem_of_getElem? (i := 67) (by decide +kernel)), by decide +kernel⟩
theorem ws_68 : Cond.selects "BedsideNetModel" ⟨"BedsideNetModel", "orders", "(III)V"⟩ ⟨"BedsideNetModel", "orders", "(III)V"⟩ ∈ wsG := List.mem_filter.mpr ⟨List.mem_append_left _ (List.mem_of_getElem? (i := 68) (by decide +kernel)), by decide +kernel⟩
theorem ws_69 : Cond.selects "BedsideNetModel" ⟨"BedsideNetModel", "judged", "(III)I"⟩ ⟨"BedsideNetModel", "judged", "(III)I"⟩ ∈ wsG := List.mem_filter.mpr ⟨List.mem_append_left _ (List.mem_of_getElem? (i := 69) (by decide +kernel)), by decide +kernel⟩
theorem ws_70 : Cond.selects "BedsideNetModel" ⟨"BedsideNetModel", "isLeased", "(I)Z"⟩ ⟨"BedsideNetModel", "isLeased", "(I)Z"⟩ ∈ wsG := List.mem_filter.mpr ⟨List.mem_append_left _ (List.mem_of_getElem? (i := 70) (by decide +kernel)), by decide +kernel⟩
theorem ws_71 : Cond.selects "BedsideNetModel" ⟨"BedsideNetModel", "isLoud", "(I)Z"⟩ ⟨"BedsideNetModel", "isLoud", "(I)Z"⟩ ∈ wsG := List.mem_filter.mpr ⟨List.mem_append_left _ (List.mem_of_getElem? (i := 71) (by decide +kernel)), by decide +kernel⟩
theorem ws_72 : Cond.selects "BedsideNetModel" ⟨"BedsideNetModel", "lookChannel", "(II)I"⟩ ⟨"BedsideNetModel", "lookChannel", "(II)I"⟩ ∈ wsG := List.mem_filter.mpr ⟨List.mem_append_left _ (List.mem_of_getElem? (i := 72) (by decide +kernel)), by decide +kernel⟩
theorem ws_73 : Cond.selects "BedsideNetModel" ⟨"BedsideNetModel", "levelOf", "(I)I"⟩ ⟨"BedsideNetModel", "levelOf", "(I)I"⟩ ∈ wsG := List.mem_filter.mpr ⟨List.mem_append_left _ (List.mem_of_getElem? (i := 73) (by decide +kernel)), by decide +kernel⟩
end
section
/-! flat states: kind of object, field (or place), number of the object -/
abbrev XS : Type := Nat → Nat → Nat → Int32
def xu (st : XS) (a k i : Nat) (v : Int32) : XS := fun a' k' i' => if a' = a ∧ k' = k ∧ i' = i then v else st a' k' i'
theorem xu_s {st : XS} {a k i : Nat} {v : Int32} : xu st a k i v a k i = v := by simp [xu]
theorem xu_n {st : XS} {a k i a' k' i' : Nat} {v : Int32} (h : ¬ (a' = a ∧ k' = k ∧ i' = i)) : xu st a k i v a' k' i' = st a' k' i' := by simp only [xu, if_neg h]
def bz (x : Int32) : Int32 := x &&& 1
theorem bz_bz (x : Int32) : bz (bz x) = bz x := by
  unfold bz
  rw [Int32.and_assoc]
  rfl
theorem bz_0 : bz 0 = 0 := by decide
theorem bz_1 : bz 1 = 1 := by decide
theorem bz_01 (x : Int32) : bz x = 0 ∨ bz x = 1 := by
  obtain ⟨j, hj, e⟩ := pk_andE x (m := 1) 1 (by decide)
  unfold bz
  rw [e]
  rcases (show j = 0 ∨ j = 1 by omega) with rfl | rfl
  · exact Or.inl (by decide)
  · exact Or.inr (by decide)
theorem bz_fit {x : Int32} (h : bz x = x) : fits .boolean (.int x) = true := by
  rcases bz_01 x with e | e <;> rw [← h, e] <;> decide
theorem bz_nar {x : Int32} (h : bz x = x) : narrow .boolean (.int x) = .int x := by
  show Value.int (x &&& 1) = .int x
  exact congrArg _ h
/-! the links between nest mates, which move with the tables -/
def nW (w : Cond) : Bool := match w with
  | .fieldLinkNest .. => true
  | .methodLinkNest .. => true
  | _ => false
def KN (U : State) : Prop := ∀ w ∈ tables_1, nW w = true → va_Nw w U
theorem KN.moved {s U : State} (hW : s.WarmedH U.vm) (h : KN s) : KN U := by
  intro w hw hn
  have h1 := h w hw hn
  cases w <;> first | (simp [nW] at hn; done) | exact va_Nw.warmF hW h1 | exact va_Nw.warmM hW h1
theorem KN.same {u U : State} (hvm : u.vm = U.vm) (h : KN u) : KN U := by
  intro w hw hn
  have h1 := h w hw hn
  cases w <;> first | (simp [nW] at hn; done) | exact va_Nw.same rfl hvm h1
/-! flat worlds: object j lies at b + j; it is of kind (w.1 j) and number (w.2.1 j); its place k holds w.2.2.1 b kind number k (the state's number there) -/
abbrev xD : Type := (Nat → Nat) × (Nat → Nat) × (Nat → Nat → Nat → Nat → Int32 → Value) × (Nat → Nat ⊕ (Nat × Nat)) × Nat
abbrev xV (w : xD) (b : Nat) (st : XS) (a i : Nat) : Nat → Value := fun k => w.2.2.1 b a i k (st a k i)
def xat (w : xD) (D : va_G) (cA : Nat → ClassId) (b : Nat) (st : XS) (j : Nat) (H : Heap) : Prop :=
  match w.2.2.2.1 (w.1 j) with
  | .inl ci => ∃ r : vw_C, xCl[ci]? = some r ∧ t_OB (b + j) (D.1 ci) r.2.2 (D.2 ci) H (xV w b st (w.1 j) (w.2.1 j))
  | .inr t => H[b + j]? = some (arrV (cA t.1) t.2 (xV w b st (w.1 j) (w.2.1 j)))
def xP (w : xD) (D : va_G) (cA : Nat → ClassId) (b : Nat) (st : XS) (H : Heap) : Prop := ∀ j, j < w.2.2.2.2 → xat w D cA b st j H
def xinj (w : xD) : Prop := ∀ j j', j < w.2.2.2.2 → j' < w.2.2.2.2 → w.1 j = w.1 j' → w.2.1 j = w.2.1 j' → j = j'
def xA (w : xD) (b : Nat) : Nat → Prop := fun q => b ≤ q ∧ q < b + w.2.2.2.2
/-- object j is the i-th of kind a -/
def xo (w : xD) (j a i : Nat) : Prop := j < w.2.2.2.2 ∧ w.1 j = a ∧ w.2.1 j = i
theorem xo.A {w : xD} {j a i b : Nat} (h : xo w j a i) : xA w b (b + j) := ⟨Nat.le_add_right _ _, Nat.add_lt_add_left h.1 _⟩
theorem xP.obj {w : xD} {D : va_G} {cA : Nat → ClassId} {b : Nat} {st : XS} {H : Heap} (h : xP w D cA b st H) {j a i ci : Nat} (ho : xo w j a i) (hs : w.2.2.2.1 a = .inl ci) : ∃ r : vw_C, xCl[ci]? = some r ∧ t_OB (b + j) (D.1 ci) r.2.2 (D.2 ci) H (xV w b st a i) := by
  obtain ⟨h1, rfl, rfl⟩ := ho
  have h2 := h j h1
  unfold xat at h2
  rw [hs] at h2
  exact h2
theorem xP.arr {w : xD} {D : va_G} {cA : Nat → ClassId} {b : Nat} {st : XS} {H : Heap} (h : xP w D cA b st H) {j a i t n : Nat} (ho : xo w j a i) (hs : w.2.2.2.1 a = .inr (t, n)) : H[b + j]? = some (arrV (cA t) n (xV w b st a i)) := by
  obtain ⟨h1, rfl, rfl⟩ := ho
  have h2 := h j h1
  unfold xat at h2
  rw [hs] at h2
  exact h2
theorem xat.kept {w : xD} {D : va_G} {cA : Nat → ClassId} {b : Nat} {st st' : XS} {j : Nat} {H H1 : Heap} (h : xat w D cA b st j H) (hq : H1[b + j]? = H[b + j]?) (hv : ∀ k, st' (w.1 j) k (w.2.1 j) = st (w.1 j) k (w.2.1 j)) : xat w D cA b st' j H1 := by
  have e : xV w b st' (w.1 j) (w.2.1 j) = xV w b st (w.1 j) (w.2.1 j) := by
    funext k
    show w.2.2.1 b _ _ k _ = w.2.2.1 b _ _ k _
    rw [hv k]
  unfold xat at h ⊢
  rw [e]
  split at h
  · obtain ⟨r, h1, h2⟩ := h
    exact ⟨r, h1, h2.kept hq⟩
  · rw [hq]
    exact h
theorem xP.kept {w : xD} {D : va_G} {cA : Nat → ClassId} {b : Nat} {st : XS} {H H1 : Heap} (h : xP w D cA b st H) (hq : ∀ q, xA w b q → H1[q]? = H[q]?) : xP w D cA b st H1 :=
  fun j hj => (h j hj).kept (hq _ ⟨Nat.le_add_right _ _, Nat.add_lt_add_left hj _⟩) (fun _ => rfl)
theorem xP.put {w : xD} (hw : xinj w) {D : va_G} {cA : Nat → ClassId} {b : Nat} {st : XS} {H H1 : Heap} (h : xP w D cA b st H) {j a i k : Nat} {v : Int32} (ho : xo w j a i) (hj : xat w D cA b (xu st a k i v) j H1) (oq : ∀ q, q ≠ b + j → H1[q]? = H[q]?) : xP w D cA b (xu st a k i v) H1 := by
  intro j' hj'
  by_cases e : j' = j
  · subst e
    exact hj
  · refine (h j' hj').kept (oq _ (by omega)) (fun k' => xu_n ?_)
    rintro ⟨h1, -, h2⟩
    exact e (hw j' j hj' ho.1 (h1.trans ho.2.1.symm) (h2.trans ho.2.2.symm))
/-- a class of the list, its words among the good ones -/
def xcl (ci : Nat) (C : String) (T : u_T) (N : Nat) (ty : Nat → FieldType) : Prop := xCl[ci]? = some (C, T, N) ∧ (∀ w ∈ u_ws C T N, w ∈ wsG) ∧ (∀ k, k < N → parseFieldDescriptor (T k).2.2.1 = some (ty k)) ∧ ∀ a, a < N → ∀ b, b < N → a ≠ b → (T a).2.1 ≠ (T b).2.1
abbrev xTy (cA : Nat → ClassId) : List (ClassId × FieldType) := [(cA 0, .int), (cA 1, .boolean), (cA 2, .long), (cA 3, .object R_DE), (cA 4, .object R_DI), (cA 5, .object R_OR), (cA 6, .object R_ME), (cA 7, .object R_CH)]
/-- what stays the same throughout a body -/
def xCx (p : Program) (s : State) (m : MethodId) (args : Array Value) (c : Code) (cc : ByteArray) (own : String) (D : va_G) (cA : Nat → ClassId) : Prop :=
  p.tables.exec = Jvm.exec ∧ c.code = cc ∧ s.vm.findClass own = some m.cls ∧ (∀ w ∈ wsG, w.before args s = true) ∧ va_K D xCl (xTy cA) s ∧ KN s
section XG
variable {p : Program} {l : Launch} {e : Env} {R : Room} {s : State} {m : MethodId} {args : Array Value} {below : List Frame} {meth : Method} {c : Code} {H : Heap} {locs : List Loc} {cells slots : Nat} {Q : State → Prop}
variable {cc : ByteArray} {pc : Nat} {ls : Array Slot} {rest : List Value} {own : String} {D : va_G} {cA : Nat → ClassId} {w : xD} {b : Nat} {st : XS} {H0 : Heap}
theorem xget (C : xCx p s m args c cc own D cA) (hP : xP w D cA b st H) {j a i ci : Nat} (ho : xo w j a i) (hs : w.2.2.2.1 a = .inl ci) {Cn : String} {T : u_T} {N : Nat} {ty : Nat → FieldType} (hc : xcl ci Cn T N ty) {k idx : Nat} (hk : k < N) (hl : Cond.fieldLink own idx (T k).1 (T k).2.1 (T k).2.2.1 ∈ wsG) {v : Value} (hv : w.2.2.1 b a i k (st a k i) = v) (hdg : decode cc pc = .ok (.getfield idx, 3))
    (kk : W p l e R s m args below meth c H locs cells slots Q (F0 m (pc + 3) ls (v :: rest))) : W p l e R s m args below meth c H locs cells slots Q (F0 m pc ls (.ref (b + j) :: rest)) := by
  obtain ⟨r, h1, cell, q1, q2, q3, q4⟩ := hP.obj ho hs
  cases Option.some.inj (h1.symm.trans hc.1)
  obtain ⟨hS, hfc, kC, hkC, hkind⟩ := C.2.2.2.2.1.1 ci _ hc.1
  obtain ⟨cf, kf, fi, f, hi, hsl⟩ := hS k hk
  refine W.getf C.1 C.2.1 C.2.2.1 (C.2.2.2.1 _ hl) hi (u_facts hfc hkC (u_lays C.2.2.2.1 hc.2.1 hk) hi).1 q1 (by rw [q3]; exact fun h => by cases h) (v := v) ?_ rfl rfl hdg kk
  rw [hsl, q4 k hk]
  exact congrArg some hv
theorem xgetN (C : xCx p s m args c cc own D cA) (hP : xP w D cA b st H) {j a i ci : Nat} (ho : xo w j a i) (hs : w.2.2.2.1 a = .inl ci) {Cn : String} {T : u_T} {N : Nat} {ty : Nat → FieldType} (hc : xcl ci Cn T N ty) {k idx : Nat} (hk : k < N) (hl : Cond.fieldLinkNest own idx (T k).1 (T k).2.1 (T k).2.2.1 "BedsideNet" ∈ tables_1) {v : Value} (hv : w.2.2.1 b a i k (st a k i) = v) (hdg : decode cc pc = .ok (.getfield idx, 3))
    (kk : W p l e R s m args below meth c H locs cells slots Q (F0 m (pc + 3) ls (v :: rest))) : W p l e R s m args below meth c H locs cells slots Q (F0 m pc ls (.ref (b + j) :: rest)) := by
  obtain ⟨r, h1, cell, q1, q2, q3, q4⟩ := hP.obj ho hs
  cases Option.some.inj (h1.symm.trans hc.1)
  obtain ⟨hS, hfc, kC, hkC, hkind⟩ := C.2.2.2.2.1.1 ci _ hc.1
  obtain ⟨cf, kf, fi, f, hi, hsl⟩ := hS k hk
  refine va_Wgetf C.1 C.2.1 C.2.2.1 (va_Nw.use rfl (C.2.2.2.2.2 _ hl rfl)) hi (u_facts hfc hkC (u_lays C.2.2.2.1 hc.2.1 hk) hi).1 q1 (by rw [q3]; exact fun h => by cases h) (v := v) ?_ rfl rfl hdg kk
  rw [hsl, q4 k hk]
  exact congrArg some hv
/-- the object behind a store -/
theorem xstored (hw : xinj w) (hP : xP w D cA b st H) {j a i ci : Nat} (ho : xo w j a i) (hs : w.2.2.2.1 a = .inl ci) {r : vw_C} (hr : xCl[ci]? = some r) {k : Nat} {x : Int32} {H1 : Heap} {cell : Cell} (q2 : cell.cls = D.1 ci) (q3 : cell.vm = .none) (e1 : H1[b + j]? = some cell) (hvv : ∀ n, n < r.2.2 → cell.slots[D.2 ci n]? = some (updV (xV w b st a i) k (w.2.2.1 b a i k x) n)) (oq : ∀ q, q ≠ b + j → H1[q]? = H[q]?) : xP w D cA b (xu st a k i x) H1 := by
  refine hP.put hw ho ?_ oq
  obtain ⟨h1, rfl, rfl⟩ := ho
  unfold xat
  rw [hs]
  refine ⟨r, hr, cell, e1, q2, q3, fun n hn => ?_⟩
  rw [hvv n hn]
  congr 1
  unfold updV
  show _ = w.2.2.1 b (w.1 j) (w.2.1 j) n (xu st (w.1 j) k (w.2.1 j) x (w.1 j) n (w.2.1 j))
  by_cases hnk : n = k
  · subst hnk
    rw [if_pos rfl, xu_s]
  · rw [if_neg hnk, xu_n (by rintro ⟨-, h, -⟩; exact hnk h)]
theorem xput (hw : xinj w) (C : xCx p s m args c cc own D cA) (hP : xP w D cA b st H) (hS0 : va_S (xA w b) H0 H locs) {j a i ci : Nat} (ho : xo w j a i) (hs : w.2.2.2.1 a = .inl ci) {Cn : String} {T : u_T} {N : Nat} {ty : Nat → FieldType} (hc : xcl ci Cn T N ty) {k idx : Nat} (hk : k < N) (hl : Cond.fieldLink own idx (T k).1 (T k).2.1 (T k).2.2.1 ∈ wsG) (hfin : (T k).2.2.2 = false) {x : Int32} (hv : w.2.2.1 b a i k x = .int x) (hn : narrow (ty k) (.int x) = .int x) (hft : fits (ty k) (.int x) = true) (hdg : decode cc pc = .ok (.putfield idx, 3))
    (kk : ∀ (H1 : Heap) (locs1 : List Loc), xP w D cA b (xu st a k i x) H1 → va_S (xA w b) H0 H1 locs1 → W p l e R s m args below meth c H1 locs1 cells slots Q (F0 m (pc + 3) ls rest)) : W p l e R s m args below meth c H locs cells slots Q (F0 m pc ls (.int x :: .ref (b + j) :: rest)) := by
  have hap := va_apart (own := own) C.2.2.2.1 hc.2.1 ty hc.2.2.1 hc.2.2.2 C.2.2.2.2.1 hc.1
  obtain ⟨r, h1, cell, q1, q2, q3, q4⟩ := hP.obj ho hs
  cases Option.some.inj (h1.symm.trans hc.1)
  obtain ⟨hS, hfc, kC, hkC, hkind⟩ := C.2.2.2.2.1.1 ci _ hc.1
  obtain ⟨cf, kf, fi, f, hi, hsl⟩ := hS k hk
  have hlay := C.2.2.2.1 _ (hc.2.1 _ (u_in_lay hk))
  unfold u_lay at hlay
  rw [if_neg (by rw [hfin]; decide)] at hlay
  have hst := (u_facts hfc hkC (u_lays C.2.2.2.1 hc.2.1 hk) hi).1
  have h6 := u_store hfc hkC hkind hlay hi (hc.2.2.1 k hk) hn hft
  refine W.putK C.1 C.2.1 (f := f) ⟨C.2.2.1, C.2.2.2.1 _ hl, ⟨_, _, _, hi⟩, hst⟩ (by rw [q2]; exact h6) q1 q3 (by rw [hsl]; exact k2_hasslot (q4 k hk)) rfl rfl hdg fun H' e1 e2 e3 => ?_
  rw [hsl] at e1 ⊢
  exact kk H' _ (xstored hw hP ho hs hc.1 (cell := cell.setSlot (D.2 ci k) (.int x)) q2 q3 e1 (by rw [hv]; exact t_set q4 hap hk _) e3) (hS0.put e2 e3 ho.A)
theorem xputN (hw : xinj w) (C : xCx p s m args c cc own D cA) (hP : xP w D cA b st H) (hS0 : va_S (xA w b) H0 H locs) {j a i ci : Nat} (ho : xo w j a i) (hs : w.2.2.2.1 a = .inl ci) {Cn : String} {T : u_T} {N : Nat} {ty : Nat → FieldType} (hc : xcl ci Cn T N ty) {k idx : Nat} (hk : k < N) (hl : Cond.fieldLinkNest own idx (T k).1 (T k).2.1 (T k).2.2.1 "BedsideNet" ∈ tables_1) (hfin : (T k).2.2.2 = false) {x : Int32} (hv : w.2.2.1 b a i k x = .int x) (hn : narrow (ty k) (.int x) = .int x) (hft : fits (ty k) (.int x) = true) (hdg : decode cc pc = .ok (.putfield idx, 3))
    (kk : ∀ (H1 : Heap) (locs1 : List Loc), xP w D cA b (xu st a k i x) H1 → va_S (xA w b) H0 H1 locs1 → W p l e R s m args below meth c H1 locs1 cells slots Q (F0 m (pc + 3) ls rest)) : W p l e R s m args below meth c H locs cells slots Q (F0 m pc ls (.int x :: .ref (b + j) :: rest)) := by
  have hap := va_apart (own := own) C.2.2.2.1 hc.2.1 ty hc.2.2.1 hc.2.2.2 C.2.2.2.2.1 hc.1
  obtain ⟨r, h1, cell, q1, q2, q3, q4⟩ := hP.obj ho hs
  cases Option.some.inj (h1.symm.trans hc.1)
  obtain ⟨hS, hfc, kC, hkC, hkind⟩ := C.2.2.2.2.1.1 ci _ hc.1
  obtain ⟨cf, kf, fi, f, hi, hsl⟩ := hS k hk
  have hlay := C.2.2.2.1 _ (hc.2.1 _ (u_in_lay hk))
  unfold u_lay at hlay
  rw [if_neg (by rw [hfin]; decide)] at hlay
  have hst := (u_facts hfc hkC (u_lays C.2.2.2.1 hc.2.1 hk) hi).1
  have h6 := u_store hfc hkC hkind hlay hi (hc.2.2.1 k hk) hn hft
  refine va_WputK C.1 C.2.1 (f := f) C.2.2.1 (va_Nw.use rfl (C.2.2.2.2.2 _ hl rfl)) hi hst (by rw [q2]; exact h6) q1 q3 (by rw [hsl]; exact k2_hasslot (q4 k hk)) rfl rfl hdg fun H' e1 e2 e3 => ?_
  rw [hsl] at e1 ⊢
  exact kk H' _ (xstored hw hP ho hs hc.1 (cell := cell.setSlot (D.2 ci k) (.int x)) q2 q3 e1 (by rw [hv]; exact t_set q4 hap hk _) e3) (hS0.put e2 e3 ho.A)
end XG
end
section
section XR
variable {p : Program} {l : Launch} {e : Env} {R : Room} {s : State} {m : MethodId} {args : Array Value} {below : List Frame} {meth : Method} {c : Code} {H : Heap} {locs : List Loc} {cells slots : Nat} {Q : State → Prop}
variable {cc : ByteArray} {pc : Nat} {ls : Array Slot} {rest : List Value} {own : String} {D : va_G} {cA : Nat → ClassId} {w : xD} {b : Nat} {st : XS} {H0 : Heap}
theorem xin_lt {x : Int32} {n : Nat} (h : vp_in x n) : x.toNatClampNeg < n := Nat.not_le.mp fun q => h (Or.inr q)
theorem xiald (C : xCx p s m args c cc own D cA) (hP : xP w D cA b st H) {j a i n : Nat} (ho : xo w j a i) (hs : w.2.2.2.1 a = .inr (0, n)) {x : Int32} (hin : vp_in x n) {v : Int32} (hv : w.2.2.1 b a i x.toNatClampNeg (st a x.toNatClampNeg i) = .int v) (hdg : decode cc pc = .ok (.iaload, 1))
    (kk : W p l e R s m args below meth c H locs cells slots Q (F0 m (pc + 1) ls (.int v :: rest))) : W p l e R s m args below meth c H locs cells slots Q (F0 m pc ls (.int x :: .ref (b + j) :: rest)) :=
  W.iald (v := .int v) C.1 C.2.1 (hP.arr ho hs) ((C.2.2.2.2.1.2 0 _ rfl).1 n _) (fun q => by cases q) (by rw [arrV_size]; exact hin) (by rw [arrV_read _ _ (xin_lt hin)]; exact congrArg some hv) rfl rfl hdg kk
theorem xzald (C : xCx p s m args c cc own D cA) (hP : xP w D cA b st H) {j a i n : Nat} (ho : xo w j a i) (hs : w.2.2.2.1 a = .inr (1, n)) {x : Int32} (hin : vp_in x n) {v : Int32} (hv : w.2.2.1 b a i x.toNatClampNeg (st a x.toNatClampNeg i) = .int v) (hdg : decode cc pc = .ok (.baload, 1))
    (kk : W p l e R s m args below meth c H locs cells slots Q (F0 m (pc + 1) ls (.int v :: rest))) : W p l e R s m args below meth c H locs cells slots Q (F0 m pc ls (.int x :: .ref (b + j) :: rest)) :=
  W.zald (v := .int v) C.1 C.2.1 (hP.arr ho hs) ((C.2.2.2.2.1.2 1 _ rfl).1 n _) (fun q => by cases q) (by rw [arrV_size]; exact hin) (by rw [arrV_read _ _ (xin_lt hin)]; exact congrArg some hv) rfl rfl hdg kk
theorem xaald (C : xCx p s m args c cc own D cA) (hP : xP w D cA b st H) {j a i n t : Nat} (ho : xo w j a i) (hs : w.2.2.2.1 a = .inr (t, n)) {E : String} (ht : (xTy cA)[t]? = some (cA t, .object E)) {x : Int32} (hin : vp_in x n) {v : Nat} (hv : w.2.2.1 b a i x.toNatClampNeg (st a x.toNatClampNeg i) = .ref v) (hdg : decode cc pc = .ok (.aaload, 1))
    (kk : W p l e R s m args below meth c H locs cells slots Q (F0 m (pc + 1) ls (.ref v :: rest))) : W p l e R s m args below meth c H locs cells slots Q (F0 m pc ls (.int x :: .ref (b + j) :: rest)) :=
  W.aald (v := .ref v) (ty := .object E) C.1 C.2.1 (hP.arr ho hs) ((C.2.2.2.2.1.2 t _ ht).1 n _) rfl (fun q => by cases q) (by rw [arrV_size]; exact hin) (by rw [arrV_read _ _ (xin_lt hin)]; exact congrArg some hv) rfl rfl hdg kk
/-- the array behind a store -/
theorem xastored (hw : xinj w) (hP : xP w D cA b st H) {j a i t n : Nat} (ho : xo w j a i) (hs : w.2.2.2.1 a = .inr (t, n)) {k : Nat} {x : Int32} {v : Value} (hv : w.2.2.1 b a i k x = v) {H1 : Heap} (e1 : H1[b + j]? = some ((arrV (cA t) n (xV w b st a i)).setSlot k v)) (oq : ∀ q, q ≠ b + j → H1[q]? = H[q]?) : xP w D cA b (xu st a k i x) H1 := by
  refine hP.put hw ho ?_ oq
  obtain ⟨h1, rfl, rfl⟩ := ho
  unfold xat
  rw [hs]
  show H1[b + j]? = some (arrV (cA t) n _)
  rw [e1, arrV_store]
  congr 2
  funext q
  unfold updV
  show _ = w.2.2.1 b (w.1 j) (w.2.1 j) q (xu st (w.1 j) k (w.2.1 j) x (w.1 j) q (w.2.1 j))
  by_cases hq : q = k
  · subst hq
    rw [if_pos rfl, xu_s]
    exact hv.symm
  · rw [if_neg hq, xu_n (by rintro ⟨-, h, -⟩; exact hq h)]
theorem xiast (hw : xinj w) (C : xCx p s m args c cc own D cA) (hP : xP w D cA b st H) (hS : va_S (xA w b) H0 H locs) {j a i n : Nat} (ho : xo w j a i) (hs : w.2.2.2.1 a = .inr (0, n)) {x v : Int32} (hin : vp_in x n) (hv : w.2.2.1 b a i x.toNatClampNeg v = .int v) (hdg : decode cc pc = .ok (.iastore, 1))
    (kk : ∀ (H1 : Heap) (locs1 : List Loc), xP w D cA b (xu st a x.toNatClampNeg i v) H1 → va_S (xA w b) H0 H1 locs1 → W p l e R s m args below meth c H1 locs1 cells slots Q (F0 m (pc + 1) ls rest)) : W p l e R s m args below meth c H locs cells slots Q (F0 m pc ls (.int v :: .int x :: .ref (b + j) :: rest)) :=
  W.iast C.1 C.2.1 (hP.arr ho hs) ((C.2.2.2.2.1.2 0 _ rfl).1 n _) (fun q => by cases q) (by rw [arrV_size]; exact hin) rfl rfl hdg fun H1 e1 z oq => kk H1 _ (xastored hw hP ho hs hv e1 oq) (hS.put z oq ho.A)
theorem xzast (hw : xinj w) (C : xCx p s m args c cc own D cA) (hP : xP w D cA b st H) (hS : va_S (xA w b) H0 H locs) {j a i n : Nat} (ho : xo w j a i) (hs : w.2.2.2.1 a = .inr (1, n)) {x v : Int32} (hin : vp_in x n) (hv : w.2.2.1 b a i x.toNatClampNeg v = .int (bz v)) (hdg : decode cc pc = .ok (.bastore, 1))
    (kk : ∀ (H1 : Heap) (locs1 : List Loc), xP w D cA b (xu st a x.toNatClampNeg i v) H1 → va_S (xA w b) H0 H1 locs1 → W p l e R s m args below meth c H1 locs1 cells slots Q (F0 m (pc + 1) ls rest)) : W p l e R s m args below meth c H locs cells slots Q (F0 m pc ls (.int v :: .int x :: .ref (b + j) :: rest)) :=
  W.zast C.1 C.2.1 (hP.arr ho hs) ((C.2.2.2.2.1.2 1 _ rfl).1 n _) (fun q => by cases q) (by rw [arrV_size]; exact hin) rfl rfl hdg fun H1 e1 z oq => kk H1 _ (xastored hw hP ho hs hv e1 oq) (hS.put z oq ho.A)
/-! contracts over a flat world: nothing is made, nothing outside is changed -/
def xPre (w : xD) (D : va_G) (cA : Nat → ClassId) (b : Nat) (st : XS) (U : State) : Prop := xP w D cA b st U.heap ∧ va_K D xCl (xTy cA) U ∧ KN U
def xMi (w : xD) (D : va_G) (cA : Nat → ClassId) (b : Nat) (l : Launch) (y : MethodName) (cw : Cond) (rm : Room) (st : XS) (av : List Value) (r : Int32) (st' : XS) : Prop :=
  Met l y (cw :: wsG) rm (va_Pc av (xPre w D cA b st)) (va_Qi (fun r' u => r' = r ∧ u = st') (fun u t => xP w D cA b u t.heap) (xA w b)) 0 0 (xA w b)
def xMv (w : xD) (D : va_G) (cA : Nat → ClassId) (b : Nat) (l : Launch) (y : MethodName) (cw : Cond) (rm : Room) (st : XS) (av : List Value) (st' : XS) : Prop :=
  Met l y (cw :: wsG) rm (va_Pc av (xPre w D cA b st)) (va_Qv (fun u => u = st') (fun u t => xP w D cA b u t.heap) (xA w b)) 0 0 (xA w b)
/-- the end of a body that gives an int, of a void one -/
abbrev xEi (w : xD) (D : va_G) (cA : Nat → ClassId) (b : Nat) (below : List Frame) (args : Array Value) (s : State) (r : Int32) (st' : XS) : State → Prop := MQ below (va_Qi (fun r' u => r' = r ∧ u = st') (fun u t => xP w D cA b u t.heap) (xA w b)) args s 0 0 (xA w b)
abbrev xEv (w : xD) (D : va_G) (cA : Nat → ClassId) (b : Nat) (below : List Frame) (args : Array Value) (s : State) (st' : XS) : State → Prop := MQ below (va_Qv (fun u => u = st') (fun u t => xP w D cA b u t.heap) (xA w b)) args s 0 0 (xA w b)
theorem xMi_of {y : MethodName} {cw : Cond} {rm : Room} {av : List Value} {r : Int32} {st' : XS} {nL : Nat} {ty : FieldType} (hw : cw = Cond.code y cc nL (some ty)) (hy : plainName y.cls = true) (hn : (lg_sl av).length ≤ nL)
    (body : ∀ (p : Program) (e : Env) (s : State) (m : MethodId) (below : List Frame) (meth : Method) (c : Code) (ls : Array Slot), xCx p s m av.toArray c cc y.cls D cA → meth.locks = false → meth.sig.returnType = some ty → c.maxLocals = nL → lv_has ls nL (lv_args 0 av) → xP w D cA b st s.heap → va_S (xA w b) s.heap s.heap [] →
      W p l e rm s m av.toArray below meth c s.heap [] 0 0 (xEi w D cA b below av.toArray s r st') (F0 m 0 ls [])) : xMi w D cA b l y cw rm st av r st' := by
  subst hw
  refine Met.ofW (cc := cc) (maxL := nL) (ret := some ty) hy rfl ?_
  intro p e s m args below meth c s₁ B hml hv
  obtain ⟨rfl, hP, hK, hN⟩ := hv
  have hts := atoms_spec (ws := Cond.code y cc nL (some ty) :: wsG) B.pre
  have hl := lv_entry av (n := nL) hn
  rw [lg_entry_eq]
  exact body p e s m below meth c _ ⟨B.exec, B.bytes, findClass_of_methodNamed B.named, fun w hw => hts w (List.mem_cons_of_mem _ hw), hK, hN⟩ B.notSynchronized B.returns hml hl hP va_S.rf
theorem xMv_of {y : MethodName} {cw : Cond} {rm : Room} {av : List Value} {st' : XS} {nL : Nat} (hw : cw = Cond.code y cc nL none) (hy : plainName y.cls = true) (hn : (lg_sl av).length ≤ nL)
    (body : ∀ (p : Program) (e : Env) (s : State) (m : MethodId) (below : List Frame) (meth : Method) (c : Code) (ls : Array Slot), xCx p s m av.toArray c cc y.cls D cA → meth.locks = false → meth.sig.returnType = none → c.maxLocals = nL → lv_has ls nL (lv_args 0 av) → xP w D cA b st s.heap → va_S (xA w b) s.heap s.heap [] →
      W p l e rm s m av.toArray below meth c s.heap [] 0 0 (xEv w D cA b below av.toArray s st') (F0 m 0 ls [])) : xMv w D cA b l y cw rm st av st' := by
  subst hw
  refine Met.ofW (cc := cc) (maxL := nL) (ret := none) hy rfl ?_
  intro p e s m args below meth c s₁ B hml hv
  obtain ⟨rfl, hP, hK, hN⟩ := hv
  have hts := atoms_spec (ws := Cond.code y cc nL none :: wsG) B.pre
  have hl := lv_entry av (n := nL) hn
  rw [lg_entry_eq]
  exact body p e s m below meth c _ ⟨B.exec, B.bytes, findClass_of_methodNamed B.named, fun w hw => hts w (List.mem_cons_of_mem _ hw), hK, hN⟩ B.notSynchronized B.returns hml hl hP va_S.rf
theorem xri {r r' : Int32} {st' u : XS} (C : xCx p s m args c cc own D cA) (hlk : meth.locks = false) (hr : meth.sig.returnType = some .int) (hP : xP w D cA b u H) (hS : va_S (xA w b) s.heap H locs) (hd : decode cc pc = .ok (.ireturn, 1)) (he : r' = r ∧ u = st') : W p l e R s m args below meth c H locs 0 0 (xEi w D cA b below args s r st') (F0 m pc ls [.int r']) :=
  W.iret C.1 C.2.1 hr (fun t ht _ => ⟨⟨r', u, rfl, he, by show xP w D cA b u t.heap; rw [ht]; exact hP⟩, hS.F ht⟩) hS.2.2 hd hlk
theorem xrz {r r' : Int32} {st' u : XS} (C : xCx p s m args c cc own D cA) (hlk : meth.locks = false) (hr : meth.sig.returnType = some .boolean) (hz : bz r' = r') (hP : xP w D cA b u H) (hS : va_S (xA w b) s.heap H locs) (hd : decode cc pc = .ok (.ireturn, 1)) (he : r' = r ∧ u = st') : W p l e R s m args below meth c H locs 0 0 (xEi w D cA b below args s r st') (F0 m pc ls [.int r']) :=
  W.zret C.1 C.2.1 hr (bz_nar hz) (fun t ht _ => ⟨⟨r', u, rfl, he, by show xP w D cA b u t.heap; rw [ht]; exact hP⟩, hS.F ht⟩) hS.2.2 hd hlk
theorem xrv {st' u : XS} (C : xCx p s m args c cc own D cA) (hlk : meth.locks = false) (hr : meth.sig.returnType = none) (hP : xP w D cA b u H) (hS : va_S (xA w b) s.heap H locs) (hd : decode cc pc = .ok (.return_, 1)) (he : u = st') : W p l e R s m args below meth c H locs 0 0 (xEv w D cA b below args s st') (F0 m pc ls []) :=
  W.vret C.1 C.2.1 hr (fun t ht _ => ⟨⟨u, rfl, he, by show xP w D cA b u t.heap; rw [ht]; exact hP⟩, hS.F ht⟩) hS.2.2 hd hlk
/-! calls: what the tables say of a callee -/
theorem xPre.blind {av : List Value} : FrameBlind (va_Pc av (xPre w D cA b st)) := by
  intro a U g mk q
  obtain ⟨q0, q1, q2, q3⟩ := q
  exact ⟨q0, q1, va_K.moved (u := U) (U := U.calling g mk a) (Vm.Alike.refl U.vm) q2, KN.same (u := U) (U := U.calling g mk a) rfl q3⟩
theorem xPre.at {av : List Value} (C : xCx p s m args c cc own D cA) (hP : xP w D cA b st H) : ∀ U : State, U.heap = H → s.WarmedH U.vm → va_Pc av (xPre w D cA b st) av.toArray U :=
  fun U hU hW => ⟨rfl, by rw [hU]; exact hP, va_K.moved hW.alike C.2.2.2.2.1, KN.moved hW C.2.2.2.2.2⟩
theorem xgood {cw cw' : Cond} (hc : cw' ∈ wsG) : GoodIn (cw :: wsG) (cw' :: wsG) := by
  intro x hx
  have h : x ∈ wsG := (List.mem_cons.mp hx).elim (fun e => e ▸ hc) id
  exact ⟨List.mem_cons_of_mem _ h, good_of_word (List.mem_filter.mp h).2⟩
theorem xgood' {cw' : Cond} (hc : cw' ∈ wsG) : GoodIn wsG (cw' :: wsG) := by
  intro x hx
  have h : x ∈ wsG := (List.mem_cons.mp hx).elim (fun e => e ▸ hc) id
  exact ⟨h, good_of_word (List.mem_filter.mp h).2⟩
/-- a callee: its code word, its descriptor -/
def xY (y : MethodName) (bytes : ByteArray) (maxL : Nat) (ret : Option FieldType) (n : Nat) : Prop := Cond.code y bytes maxL ret ∈ wsG ∧ Cond.initialized y.cls ∈ wsG ∧ (y.cls ≠ "java/lang/invoke/MethodHandle" ∧ y.cls ≠ "java/lang/invoke/VarHandle" ∧ (parseMethodDescriptor y.desc).map (fun d => d.parameters.length) = some n)
theorem xcallB {y : MethodName} {bytes : ByteArray} {maxL n idx : Nat} {ret : Option FieldType} {rm : Room} (C : xCx p s m args c cc own D cA) (hY : xY y bytes maxL ret n) (h0 : rm.cells = 0) (h1 : rm.slots = 0) (hl : Cond.methodLink own idx y ∈ wsG) (hR : rm.frames + 1 ≤ R.frames ∧ 8 + (maxL + 11) + rm.locals ≤ R.locals) : CallB R s args own idx y bytes maxL ret (Cond.code y bytes maxL ret :: wsG) rm 0 0 n :=
  callB_of (Ts := wsG) n C.2.2.2.1 (xgood' hY.1) rfl h0 h1 (C.2.2.2.1 _ hY.2.1) (C.2.2.2.1 _ hl) hY.2.2 hR
theorem xcallN {y : MethodName} {bytes : ByteArray} {maxL n idx : Nat} {ret : Option FieldType} {rm : Room} (C : xCx p s m args c cc own D cA) (hY : xY y bytes maxL ret n) (h0 : rm.cells = 0) (h1 : rm.slots = 0) (hl : Cond.methodLinkNest own idx y "BedsideNet" ∈ tables_1) (hR : rm.frames + 1 ≤ R.frames ∧ 8 + (maxL + 11) + rm.locals ≤ R.locals) : va_CN R s args own idx y "BedsideNet" bytes maxL ret (Cond.code y bytes maxL ret :: wsG) rm 0 0 n :=
  va_cnB (Ts := wsG) n C.2.2.2.1 (xgood' hY.1) rfl h0 h1 (C.2.2.2.2.2 _ hl rfl) (C.2.2.2.1 _ hY.2.1) hY.2.2 hR
theorem xrecv (C : xCx p s m args c cc own D cA) (hP : xP w D cA b st H) {j a i ci : Nat} (ho : xo w j a i) (hs : w.2.2.2.1 a = .inl ci) {Cn : String} {T : u_T} {N : Nat} {ty : Nat → FieldType} (hc : xcl ci Cn T N ty) : ∃ cell : Cell, H[b + j]? = some cell ∧ cell.vm.isStatics = false ∧ s.vm.findClass Cn = some cell.cls := by
  obtain ⟨r, h1, cell, q1, q2, q3, q4⟩ := hP.obj ho hs
  cases Option.some.inj (h1.symm.trans hc.1)
  obtain ⟨hS, hfc, kC, hkC, hkind⟩ := C.2.2.2.2.1.1 ci _ hc.1
  exact ⟨cell, q1, by rw [q3]; rfl, by rw [q2]; exact hfc⟩
end XR
section XZ
variable {p : Program} {l : Launch} {e : Env} {R : Room} {s : State} {m : MethodId} {args : Array Value} {below : List Frame} {meth : Method} {c : Code} {H : Heap} {locs : List Loc} {cells slots : Nat} {Q : State → Prop}
variable {cc : ByteArray} {pc : Nat} {ls : Array Slot} {rest : List Value} {own : String} {D : va_G} {cA : Nat → ClassId} {w : xD} {b : Nat} {st : XS} {H0 : Heap}
theorem xputz (hw : xinj w) (C : xCx p s m args c cc own D cA) (hP : xP w D cA b st H) (hS0 : va_S (xA w b) H0 H locs) {j a i ci : Nat} (ho : xo w j a i) (hs : w.2.2.2.1 a = .inl ci) {Cn : String} {T : u_T} {N : Nat} {ty : Nat → FieldType} (hc : xcl ci Cn T N ty) {k idx : Nat} (hk : k < N) (hl : Cond.fieldLink own idx (T k).1 (T k).2.1 (T k).2.2.1 ∈ wsG) (hfin : (T k).2.2.2 = false) {x : Int32} (hz : bz x = x) (hv : w.2.2.1 b a i k x = .int (bz x)) (hty : ty k = .boolean) (hdg : decode cc pc = .ok (.putfield idx, 3))
    (kk : ∀ (H1 : Heap) (locs1 : List Loc), xP w D cA b (xu st a k i x) H1 → va_S (xA w b) H0 H1 locs1 → W p l e R s m args below meth c H1 locs1 cells slots Q (F0 m (pc + 3) ls rest)) : W p l e R s m args below meth c H locs cells slots Q (F0 m pc ls (.int x :: .ref (b + j) :: rest)) :=
  xput hw C hP hS0 ho hs hc hk hl hfin (hv.trans (congrArg _ hz)) (by rw [hty]; exact bz_nar hz) (by rw [hty]; exact bz_fit hz) hdg kk
theorem xputNz (hw : xinj w) (C : xCx p s m args c cc own D cA) (hP : xP w D cA b st H) (hS0 : va_S (xA w b) H0 H locs) {j a i ci : Nat} (ho : xo w j a i) (hs : w.2.2.2.1 a = .inl ci) {Cn : String} {T : u_T} {N : Nat} {ty : Nat → FieldType} (hc : xcl ci Cn T N ty) {k idx : Nat} (hk : k < N) (hl : Cond.fieldLinkNest own idx (T k).1 (T k).2.1 (T k).2.2.1 "BedsideNet" ∈ tables_1) (hfin : (T k).2.2.2 = false) {x : Int32} (hz : bz x = x) (hv : w.2.2.1 b a i k x = .int (bz x)) (hty : ty k = .boolean) (hdg : decode cc pc = .ok (.putfield idx, 3))
    (kk : ∀ (H1 : Heap) (locs1 : List Loc), xP w D cA b (xu st a k i x) H1 → va_S (xA w b) H0 H1 locs1 → W p l e R s m args below meth c H1 locs1 cells slots Q (F0 m (pc + 3) ls rest)) : W p l e R s m args below meth c H locs cells slots Q (F0 m pc ls (.int x :: .ref (b + j) :: rest)) :=
  xputN hw C hP hS0 ho hs hc hk hl hfin (hv.trans (congrArg _ hz)) (by rw [hty]; exact bz_nar hz) (by rw [hty]; exact bz_fit hz) hdg kk
end XZ
end
section
section XC
variable {p : Program} {l : Launch} {e : Env} {R : Room} {s : State} {m : MethodId} {args : Array Value} {below : List Frame} {meth : Method} {c : Code} {H : Heap} {locs : List Loc} {Q : State → Prop}
variable {cc : ByteArray} {pc : Nat} {ls : Array Slot} {rest st0 : List Value} {own : String} {D : va_G} {cA : Nat → ClassId} {w : xD} {b : Nat} {st st' : XS} {r : Int32}
variable {y : MethodName} {bytes : ByteArray} {maxL n idx nL : Nat} {ret : Option FieldType} {rm : Room} {As : List Value}
theorem xcVi {j a i ci : Nat} {T : u_T} {N : Nat} {ty : Nat → FieldType} (C : xCx p s m args c cc own D cA) (hml : c.maxLocals = nL) (hsz : ls.size = nL) (hM : xMi w D cA b l y (Cond.code y bytes maxL ret) rm st (.ref (b + j) :: As) r st') (hY : xY y bytes maxL ret n) (h0 : rm.cells = 0) (h1 : rm.slots = 0) (hl : Cond.methodLink own idx y ∈ wsG) (hi : Cond.instanceMethod y ∈ wsG) (hse : Cond.selects y.cls y y ∈ wsG) (hR : rm.frames + 1 ≤ R.frames ∧ 8 + (maxL + 11) + rm.locals ≤ R.locals) (hP : xP w D cA b st H) (hS : va_S (xA w b) s.heap H locs) (ho : xo w j a i) (hs : w.2.2.2.1 a = .inl ci) (hc : xcl ci y.cls T N ty) (hn : As.length = n) (hrs : (rest.map fun v => v.category).sum ≤ 8) (hdg : decode cc pc = .ok (.invokevirtual idx, 3)) (hst : st0 = As.reverse ++ .ref (b + j) :: rest)
    (kk : ∀ (H1 : Heap) (locs1 : List Loc), xP w D cA b st' H1 → va_S (xA w b) s.heap H1 locs1 → W p l e R s m args below meth c H1 locs1 0 0 Q (F0 m (pc + 3) ls (.int r :: rest))) : W p l e R s m args below meth c H locs 0 0 Q (F0 m pc ls st0) := by
  subst hst
  refine va_calli (va_runV (C := y.cls) (Ts := wsG) (nL := nL) (As := As) (rest := rest) ⟨C.1, C.2.1, hml, C.2.2.1, C.2.2.2.1⟩ hM ⟨xcallB C hY h0 h1 hl hR, C.2.2.2.1 _ hi, C.2.2.2.1 _ hse⟩ ⟨xPre.blind, xrecv C hP ho hs hc, xPre.at C hP⟩ rfl hn hsz rfl (lv_room hrs) hdg ⟨Nat.zero_le _, Nat.zero_le _⟩) hS (fun _ _ h => h) (fun _ h => h) ?_
  rintro r' u t H1 locs1 ht - ⟨rfl, rfl⟩ hB - - hS1
  rw [ht] at hB
  exact kk H1 locs1 hB hS1
theorem xcVv {j a i ci : Nat} {T : u_T} {N : Nat} {ty : Nat → FieldType} (C : xCx p s m args c cc own D cA) (hml : c.maxLocals = nL) (hsz : ls.size = nL) (hM : xMv w D cA b l y (Cond.code y bytes maxL ret) rm st (.ref (b + j) :: As) st') (hY : xY y bytes maxL ret n) (h0 : rm.cells = 0) (h1 : rm.slots = 0) (hl : Cond.methodLink own idx y ∈ wsG) (hi : Cond.instanceMethod y ∈ wsG) (hse : Cond.selects y.cls y y ∈ wsG) (hR : rm.frames + 1 ≤ R.frames ∧ 8 + (maxL + 11) + rm.locals ≤ R.locals) (hP : xP w D cA b st H) (hS : va_S (xA w b) s.heap H locs) (ho : xo w j a i) (hs : w.2.2.2.1 a = .inl ci) (hc : xcl ci y.cls T N ty) (hn : As.length = n) (hrs : (rest.map fun v => v.category).sum ≤ 8) (hdg : decode cc pc = .ok (.invokevirtual idx, 3)) (hst : st0 = As.reverse ++ .ref (b + j) :: rest)
    (kk : ∀ (H1 : Heap) (locs1 : List Loc), xP w D cA b st' H1 → va_S (xA w b) s.heap H1 locs1 → W p l e R s m args below meth c H1 locs1 0 0 Q (F0 m (pc + 3) ls (rest))) : W p l e R s m args below meth c H locs 0 0 Q (F0 m pc ls st0) := by
  subst hst
  refine va_callv (va_runV (C := y.cls) (Ts := wsG) (nL := nL) (As := As) (rest := rest) ⟨C.1, C.2.1, hml, C.2.2.1, C.2.2.2.1⟩ hM ⟨xcallB C hY h0 h1 hl hR, C.2.2.2.1 _ hi, C.2.2.2.1 _ hse⟩ ⟨xPre.blind, xrecv C hP ho hs hc, xPre.at C hP⟩ rfl hn hsz rfl (lv_room hrs) hdg ⟨Nat.zero_le _, Nat.zero_le _⟩) hS (fun _ _ h => h) (fun _ h => h) ?_
  rintro u t H1 locs1 ht - rfl hB - - hS1
  rw [ht] at hB
  exact kk H1 locs1 hB hS1
theorem xcVNi {j a i ci : Nat} {T : u_T} {N : Nat} {ty : Nat → FieldType} (C : xCx p s m args c cc own D cA) (hml : c.maxLocals = nL) (hsz : ls.size = nL) (hM : xMi w D cA b l y (Cond.code y bytes maxL ret) rm st (.ref (b + j) :: As) r st') (hY : xY y bytes maxL ret n) (h0 : rm.cells = 0) (h1 : rm.slots = 0) (hl : Cond.methodLinkNest own idx y "BedsideNet" ∈ tables_1) (hi : Cond.instanceMethod y ∈ wsG) (hse : Cond.selects y.cls y y ∈ wsG) (hR : rm.frames + 1 ≤ R.frames ∧ 8 + (maxL + 11) + rm.locals ≤ R.locals) (hP : xP w D cA b st H) (hS : va_S (xA w b) s.heap H locs) (ho : xo w j a i) (hs : w.2.2.2.1 a = .inl ci) (hc : xcl ci y.cls T N ty) (hn : As.length = n) (hrs : (rest.map fun v => v.category).sum ≤ 8) (hdg : decode cc pc = .ok (.invokevirtual idx, 3)) (hst : st0 = As.reverse ++ .ref (b + j) :: rest)
    (kk : ∀ (H1 : Heap) (locs1 : List Loc), xP w D cA b st' H1 → va_S (xA w b) s.heap H1 locs1 → W p l e R s m args below meth c H1 locs1 0 0 Q (F0 m (pc + 3) ls (.int r :: rest))) : W p l e R s m args below meth c H locs 0 0 Q (F0 m pc ls st0) := by
  subst hst
  refine va_calli (va_runVN (C := y.cls) (Ts := wsG) (nL := nL) (As := As) (rest := rest) ⟨C.1, C.2.1, hml, C.2.2.1, C.2.2.2.1⟩ hM ⟨xcallN C hY h0 h1 hl hR, C.2.2.2.1 _ hi, C.2.2.2.1 _ hse⟩ ⟨xPre.blind, xrecv C hP ho hs hc, xPre.at C hP⟩ rfl hn hsz rfl (lv_room hrs) hdg ⟨Nat.zero_le _, Nat.zero_le _⟩) hS (fun _ _ h => h) (fun _ h => h) ?_
  rintro r' u t H1 locs1 ht - ⟨rfl, rfl⟩ hB - - hS1
  rw [ht] at hB
  exact kk H1 locs1 hB hS1
theorem xcVNv {j a i ci : Nat} {T : u_T} {N : Nat} {ty : Nat → FieldType} (C : xCx p s m args c cc own D cA) (hml : c.maxLocals = nL) (hsz : ls.size = nL) (hM : xMv w D cA b l y (Cond.code y bytes maxL ret) rm st (.ref (b + j) :: As) st') (hY : xY y bytes maxL ret n) (h0 : rm.cells = 0) (h1 : rm.slots = 0) (hl : Cond.methodLinkNest own idx y "BedsideNet" ∈ tables_1) (hi : Cond.instanceMethod y ∈ wsG) (hse : Cond.selects y.cls y y ∈ wsG) (hR : rm.frames + 1 ≤ R.frames ∧ 8 + (maxL + 11) + rm.locals ≤ R.locals) (hP : xP w D cA b st H) (hS : va_S (xA w b) s.heap H locs) (ho : xo w j a i) (hs : w.2.2.2.1 a = .inl ci) (hc : xcl ci y.cls T N ty) (hn : As.length = n) (hrs : (rest.map fun v => v.category).sum ≤ 8) (hdg : decode cc pc = .ok (.invokevirtual idx, 3)) (hst : st0 = As.reverse ++ .ref (b + j) :: rest)
    (kk : ∀ (H1 : Heap) (locs1 : List Loc), xP w D cA b st' H1 → va_S (xA w b) s.heap H1 locs1 → W p l e R s m args below meth c H1 locs1 0 0 Q (F0 m (pc + 3) ls (rest))) : W p l e R s m args below meth c H locs 0 0 Q (F0 m pc ls st0) := by
  subst hst
  refine va_callv (va_runVN (C := y.cls) (Ts := wsG) (nL := nL) (As := As) (rest := rest) ⟨C.1, C.2.1, hml, C.2.2.1, C.2.2.2.1⟩ hM ⟨xcallN C hY h0 h1 hl hR, C.2.2.2.1 _ hi, C.2.2.2.1 _ hse⟩ ⟨xPre.blind, xrecv C hP ho hs hc, xPre.at C hP⟩ rfl hn hsz rfl (lv_room hrs) hdg ⟨Nat.zero_le _, Nat.zero_le _⟩) hS (fun _ _ h => h) (fun _ h => h) ?_
  rintro u t H1 locs1 ht - rfl hB - - hS1
  rw [ht] at hB
  exact kk H1 locs1 hB hS1
theorem xcSi (C : xCx p s m args c cc own D cA) (hml : c.maxLocals = nL) (hsz : ls.size = nL) (hM : xMi w D cA b l y (Cond.code y bytes maxL ret) rm st As r st') (hY : xY y bytes maxL ret n) (h0 : rm.cells = 0) (h1 : rm.slots = 0) (hl : Cond.methodLink own idx y ∈ wsG) (hi : Cond.static y ∈ wsG) (hR : rm.frames + 1 ≤ R.frames ∧ 8 + (maxL + 11) + rm.locals ≤ R.locals) (hP : xP w D cA b st H) (hS : va_S (xA w b) s.heap H locs) (hn : As.length = n) (hrs : (rest.map fun v => v.category).sum ≤ 8) (hdg : decode cc pc = .ok (.invokestatic idx, 3)) (hst : st0 = As.reverse ++ rest)
    (kk : ∀ (H1 : Heap) (locs1 : List Loc), xP w D cA b st' H1 → va_S (xA w b) s.heap H1 locs1 → W p l e R s m args below meth c H1 locs1 0 0 Q (F0 m (pc + 3) ls (.int r :: rest))) : W p l e R s m args below meth c H locs 0 0 Q (F0 m pc ls st0) := by
  subst hst
  refine va_calli (va_runS (Ts := wsG) (nL := nL) (As := As) (rest := rest) ⟨C.1, C.2.1, hml, C.2.2.1, C.2.2.2.1⟩ hM ⟨xcallB C hY h0 h1 hl hR, C.2.2.2.1 _ hi⟩ ⟨xPre.blind, xPre.at C hP⟩ rfl hn hsz rfl (lv_room hrs) hdg ⟨Nat.zero_le _, Nat.zero_le _⟩) hS (fun _ _ h => h) (fun _ h => h) ?_
  rintro r' u t H1 locs1 ht - ⟨rfl, rfl⟩ hB - - hS1
  rw [ht] at hB
  exact kk H1 locs1 hB hS1
theorem xcSv (C : xCx p s m args c cc own D cA) (hml : c.maxLocals = nL) (hsz : ls.size = nL) (hM : xMv w D cA b l y (Cond.code y bytes maxL ret) rm st As st') (hY : xY y bytes maxL ret n) (h0 : rm.cells = 0) (h1 : rm.slots = 0) (hl : Cond.methodLink own idx y ∈ wsG) (hi : Cond.static y ∈ wsG) (hR : rm.frames + 1 ≤ R.frames ∧ 8 + (maxL + 11) + rm.locals ≤ R.locals) (hP : xP w D cA b st H) (hS : va_S (xA w b) s.heap H locs) (hn : As.length = n) (hrs : (rest.map fun v => v.category).sum ≤ 8) (hdg : decode cc pc = .ok (.invokestatic idx, 3)) (hst : st0 = As.reverse ++ rest)
    (kk : ∀ (H1 : Heap) (locs1 : List Loc), xP w D cA b st' H1 → va_S (xA w b) s.heap H1 locs1 → W p l e R s m args below meth c H1 locs1 0 0 Q (F0 m (pc + 3) ls (rest))) : W p l e R s m args below meth c H locs 0 0 Q (F0 m pc ls st0) := by
  subst hst
  refine va_callv (va_runS (Ts := wsG) (nL := nL) (As := As) (rest := rest) ⟨C.1, C.2.1, hml, C.2.2.1, C.2.2.2.1⟩ hM ⟨xcallB C hY h0 h1 hl hR, C.2.2.2.1 _ hi⟩ ⟨xPre.blind, xPre.at C hP⟩ rfl hn hsz rfl (lv_room hrs) hdg ⟨Nat.zero_le _, Nat.zero_le _⟩) hS (fun _ _ h => h) (fun _ h => h) ?_
  rintro u t H1 locs1 ht - rfl hB - - hS1
  rw [ht] at hB
  exact kk H1 locs1 hB hS1
theorem xcSNi (C : xCx p s m args c cc own D cA) (hml : c.maxLocals = nL) (hsz : ls.size = nL) (hM : xMi w D cA b l y (Cond.code y bytes maxL ret) rm st As r st') (hY : xY y bytes maxL ret n) (h0 : rm.cells = 0) (h1 : rm.slots = 0) (hl : Cond.methodLinkNest own idx y "BedsideNet" ∈ tables_1) (hi : Cond.static y ∈ wsG) (hR : rm.frames + 1 ≤ R.frames ∧ 8 + (maxL + 11) + rm.locals ≤ R.locals) (hP : xP w D cA b st H) (hS : va_S (xA w b) s.heap H locs) (hn : As.length = n) (hrs : (rest.map fun v => v.category).sum ≤ 8) (hdg : decode cc pc = .ok (.invokestatic idx, 3)) (hst : st0 = As.reverse ++ rest)
    (kk : ∀ (H1 : Heap) (locs1 : List Loc), xP w D cA b st' H1 → va_S (xA w b) s.heap H1 locs1 → W p l e R s m args below meth c H1 locs1 0 0 Q (F0 m (pc + 3) ls (.int r :: rest))) : W p l e R s m args below meth c H locs 0 0 Q (F0 m pc ls st0) := by
  subst hst
  refine va_calli (va_runSN (Ts := wsG) (nL := nL) (As := As) (rest := rest) ⟨C.1, C.2.1, hml, C.2.2.1, C.2.2.2.1⟩ hM ⟨xcallN C hY h0 h1 hl hR, C.2.2.2.1 _ hi, trivial⟩ ⟨xPre.blind, xPre.at C hP⟩ rfl hn hsz rfl (lv_room hrs) hdg ⟨Nat.zero_le _, Nat.zero_le _⟩) hS (fun _ _ h => h) (fun _ h => h) ?_
  rintro r' u t H1 locs1 ht - ⟨rfl, rfl⟩ hB - - hS1
  rw [ht] at hB
  exact kk H1 locs1 hB hS1
theorem xcSNv (C : xCx p s m args c cc own D cA) (hml : c.maxLocals = nL) (hsz : ls.size = nL) (hM : xMv w D cA b l y (Cond.code y bytes maxL ret) rm st As st') (hY : xY y bytes maxL ret n) (h0 : rm.cells = 0) (h1 : rm.slots = 0) (hl : Cond.methodLinkNest own idx y "BedsideNet" ∈ tables_1) (hi : Cond.static y ∈ wsG) (hR : rm.frames + 1 ≤ R.frames ∧ 8 + (maxL + 11) + rm.locals ≤ R.locals) (hP : xP w D cA b st H) (hS : va_S (xA w b) s.heap H locs) (hn : As.length = n) (hrs : (rest.map fun v => v.category).sum ≤ 8) (hdg : decode cc pc = .ok (.invokestatic idx, 3)) (hst : st0 = As.reverse ++ rest)
    (kk : ∀ (H1 : Heap) (locs1 : List Loc), xP w D cA b st' H1 → va_S (xA w b) s.heap H1 locs1 → W p l e R s m args below meth c H1 locs1 0 0 Q (F0 m (pc + 3) ls (rest))) : W p l e R s m args below meth c H locs 0 0 Q (F0 m pc ls st0) := by
  subst hst
  refine va_callv (va_runSN (Ts := wsG) (nL := nL) (As := As) (rest := rest) ⟨C.1, C.2.1, hml, C.2.2.1, C.2.2.2.1⟩ hM ⟨xcallN C hY h0 h1 hl hR, C.2.2.2.1 _ hi, trivial⟩ ⟨xPre.blind, xPre.at C hP⟩ rfl hn hsz rfl (lv_room hrs) hdg ⟨Nat.zero_le _, Nat.zero_le _⟩) hS (fun _ _ h => h) (fun _ h => h) ?_
  rintro u t H1 locs1 ht - rfl hB - - hS1
  rw [ht] at hB
  exact kk H1 locs1 hB hS1
end XC
end
section
/-! the class's world: 349 cells in the order in which they are made -/
def kwK (j : Nat) : Nat := if j ≤ 6 then j else if j ≤ 72 then 7 else if j < 233 then (if (j - 73) % 20 = 0 then 8 else if (j - 73) % 20 = 1 then 9 else if (j - 73) % 20 = 2 then 10 else if (j - 73) % 20 = 3 then 11 else if (j - 73) % 4 = 0 then 12 else if (j - 73) % 4 = 1 then 11 else if (j - 73) % 4 = 2 then 13 else 14) else if j < 249 then 15 else 16
def kwI (j : Nat) : Nat := if j ≤ 6 then 0 else if j ≤ 72 then j - 7 else if j < 233 then (if (j - 73) % 20 < 3 then (j - 73) / 20 else if (j - 73) % 20 = 3 then 200 + (j - 73) / 20 else j - 77 - (j - 77) % 4) else if j < 249 then j - 233 else j - 249
def kwO (a i : Nat) : Nat := if a ≤ 6 then a else if a = 7 then 7 + i else if a = 8 then 73 + 20 * i else if a = 9 then 74 + 20 * i else if a = 10 then 75 + 20 * i else if a = 11 then (if 200 ≤ i then 76 + 20 * (i - 200) else 78 + i) else if a = 12 then 77 + i else if a = 13 then 79 + i else if a = 14 then 80 + i else if a = 15 then 233 + i else 249 + i
theorem kwO_ok : ∀ j, j < 349 → kwO (kwK j) (kwI j) = j := by decide +kernel
def kwF (b a i k : Nat) (x : Int32) : Value := match a with
  | 0 => (match k with
    | 0 => .ref (b + 1)
    | 1 => .ref (b + 2)
    | 2 => .ref (b + 3)
    | 3 => .ref (b + 4)
    | 4 => .ref (b + 5)
    | 5 => .ref (b + 72)
    | _ => .int x)
  | 1 => .ref (b + (73 + 20 * k))
  | 2 => .int x
  | 3 => .ref (b + (233 + k))
  | 4 => .ref (b + (249 + k))
  | 5 => (match k with
    | 0 => .ref (b + 6)
    | _ => .int x)
  | 6 => .ref (b + (7 + x.toNatClampNeg))
  | 7 => .int x
  | 8 => (match k with
    | 0 => .ref (b + (74 + 20 * i))
    | 1 => .ref (b + (75 + 20 * i))
    | _ => .int x)
  | 9 => .ref (b + (77 + (20 * i + 4 * k)))
  | 10 => (match k with
    | 0 => .ref (b + (76 + 20 * i))
    | 1 => .int (bz x)
    | 3 => .int (bz x)
    | _ => .int x)
  | 11 => .int x
  | 12 => (match k with
    | 0 => .ref (b + (78 + i))
    | 1 => .ref (b + (79 + i))
    | 2 => .ref (b + (80 + i))
    | 4 => .int (bz x)
    | 7 => .int (bz x)
    | _ => .int x)
  | 13 => (match k with
    | 0 => .int (bz x)
    | 4 => .int (bz x)
    | 7 => .int (bz x)
    | 8 => .int (bz x)
    | _ => .int x)
  | 14 => (match k with
    | 1 => .int (bz x)
    | 2 => .int (bz x)
    | _ => .int x)
  | _ => .int x
def kwS (a : Nat) : Nat ⊕ (Nat × Nat) := match a with
  | 0 => .inl 10
  | 1 => .inr (3, 8)
  | 2 => .inr (0, 4)
  | 3 => .inr (4, 16)
  | 4 => .inr (5, 100)
  | 5 => .inl 7
  | 6 => .inr (6, 65)
  | 7 => .inl 5
  | 8 => .inl 2
  | 9 => .inr (7, 4)
  | 10 => .inl 9
  | 11 => .inl 8
  | 12 => .inl 1
  | 13 => .inl 0
  | 14 => .inl 4
  | 15 => .inl 3
  | _ => .inl 6
abbrev cw : xD := (kwK, kwI, kwF, kwS, 349)
theorem cw_inj : xinj cw := by
  intro j j' h h' h1 h2
  have e1 := kwO_ok j h
  have e2 := kwO_ok j' h'
  have h1' : kwK j = kwK j' := h1
  have h2' : kwI j = kwI j' := h2
  rw [h1', h2'] at e1
  exact e1.symm.trans e2
theorem o_BN : xo cw 0 0 0 := ⟨by decide, rfl, rfl⟩
theorem o_da : xo cw 1 1 0 := ⟨by decide, rfl, rfl⟩
theorem o_pa : xo cw 2 2 0 := ⟨by decide, rfl, rfl⟩
theorem o_ya : xo cw 3 3 0 := ⟨by decide, rfl, rfl⟩
theorem o_oa : xo cw 4 4 0 := ⟨by decide, rfl, rfl⟩
theorem o_PO : xo cw 5 5 0 := ⟨by decide, rfl, rfl⟩
theorem o_sa : xo cw 6 6 0 := ⟨by decide, rfl, rfl⟩
theorem o_IH : xo cw 72 7 65 := ⟨by decide, rfl, rfl⟩
theorem o_ME {k : Nat} (h : k < 65) : xo cw (7 + k) 7 k := ⟨by show 7 + k < 349; omega, by show kwK _ = _; unfold kwK; (repeat' split); all_goals omega, by show kwI _ = _; unfold kwI; (repeat' split); all_goals omega⟩
theorem o_DE {d : Nat} (h : d < 8) : xo cw (73 + 20 * d) 8 d := ⟨by show _ < 349; omega, by show kwK _ = _; unfold kwK; (repeat' split); all_goals omega, by show kwI _ = _; unfold kwI; (repeat' split); all_goals omega⟩
theorem o_ca {d : Nat} (h : d < 8) : xo cw (74 + 20 * d) 9 d := ⟨by show _ < 349; omega, by show kwK _ = _; unfold kwK; (repeat' split); all_goals omega, by show kwI _ = _; unfold kwI; (repeat' split); all_goals omega⟩
theorem o_SE {d : Nat} (h : d < 8) : xo cw (75 + 20 * d) 10 d := ⟨by show _ < 349; omega, by show kwK _ = _; unfold kwK; (repeat' split); all_goals omega, by show kwI _ = _; unfold kwI; (repeat' split); all_goals omega⟩
theorem o_RS {d : Nat} (h : d < 8) : xo cw (76 + 20 * d) 11 (200 + d) := ⟨by show _ < 349; omega, by show kwK _ = _; unfold kwK; (repeat' split); all_goals omega, by show kwI _ = _; unfold kwI; (repeat' split); all_goals omega⟩
/-- the number of a channel: 20 d + 4 c -/
def cix (i : Nat) : Prop := i < 160 ∧ i % 4 = 0 ∧ i % 20 < 16
theorem cix_of {d c : Nat} (h : d < 8) (h' : c < 4) : cix (20 * d + 4 * c) := ⟨by omega, by omega, by omega⟩
theorem o_CH {i : Nat} (h : cix i) : xo cw (77 + i) 12 i := by
  obtain ⟨h1, h2, h3⟩ := h
  exact ⟨by show _ < 349; omega, by show kwK _ = _; unfold kwK; (repeat' split); all_goals omega, by show kwI _ = _; unfold kwI; (repeat' split); all_goals omega⟩
theorem o_RC {i : Nat} (h : cix i) : xo cw (78 + i) 11 i := by
  obtain ⟨h1, h2, h3⟩ := h
  exact ⟨by show _ < 349; omega, by show kwK _ = _; unfold kwK; (repeat' split); all_goals omega, by show kwI _ = _; unfold kwI; (repeat' split); all_goals omega⟩
theorem o_AL {i : Nat} (h : cix i) : xo cw (79 + i) 13 i := by
  obtain ⟨h1, h2, h3⟩ := h
  exact ⟨by show _ < 349; omega, by show kwK _ = _; unfold kwK; (repeat' split); all_goals omega, by show kwI _ = _; unfold kwI; (repeat' split); all_goals omega⟩
theorem o_KN {i : Nat} (h : cix i) : xo cw (80 + i) 14 i := by
  obtain ⟨h1, h2, h3⟩ := h
  exact ⟨by show _ < 349; omega, by show kwK _ = _; unfold kwK; (repeat' split); all_goals omega, by show kwI _ = _; unfold kwI; (repeat' split); all_goals omega⟩
theorem o_DI {i : Nat} (h : i < 16) : xo cw (233 + i) 15 i := ⟨by show _ < 349; omega, by show kwK _ = _; unfold kwK; (repeat' split); all_goals omega, by show kwI _ = _; unfold kwI; (repeat' split); all_goals omega⟩
theorem o_OR {i : Nat} (h : i < 100) : xo cw (249 + i) 16 i := ⟨by show _ < 349; omega, by show kwK _ = _; unfold kwK; (repeat' split); all_goals omega, by show kwI _ = _; unfold kwI; (repeat' split); all_goals omega⟩
theorem c_AL : xcl 0 R_AL F_AL 10 t_AL := ⟨rfl, by decide +kernel, ft_AL, n_AL⟩
theorem c_CH : xcl 1 R_CH F_CH 9 t_CH := ⟨rfl, by decide +kernel, ft_CH, n_CH⟩
theorem c_DE : xcl 2 R_DE F_DE 9 t_DE := ⟨rfl, by decide +kernel, ft_DE, n_DE⟩
theorem c_DI : xcl 3 R_DI F_DI 8 t_DI := ⟨rfl, by decide +kernel, ft_DI, n_DI⟩
theorem c_KN : xcl 4 R_KN F_KN 3 t_KN := ⟨rfl, by decide +kernel, ft_KN, n_KN⟩
theorem c_ME : xcl 5 R_ME F_ME 8 t_ME := ⟨rfl, by decide +kernel, ft_ME, n_ME⟩
theorem c_OR : xcl 6 R_OR F_OR 5 t_OR := ⟨rfl, by decide +kernel, ft_OR, n_OR⟩
theorem c_PO : xcl 7 R_PO F_PO 4 t_PO := ⟨rfl, by decide +kernel, ft_PO, n_PO⟩
theorem c_RA : xcl 8 R_RA F_RA 3 t_RA := ⟨rfl, by decide +kernel, ft_RA, n_RA⟩
theorem c_SE : xcl 9 R_SE F_SE 6 t_SE := ⟨rfl, by decide +kernel, ft_SE, n_SE⟩
theorem c_BN : xcl 10 R_BN F_BN 9 t_BN := ⟨rfl, by decide +kernel, ft_BN, n_BN⟩
theorem c_MO : xcl 11 R_MO F_MO 62 t_MO := ⟨rfl, by decide +kernel, ft_MO, n_MO⟩
end
section
theorem q_BN_init : xY y_BN_init b_BN_init 2 none 0 := ⟨wg_25, wg_1, by decide +kernel, by decide +kernel, by decide +kernel⟩
theorem q_BN_device : xY y_BN_device b_BN_device 3 (some .boolean) 2 := ⟨wg_409, wg_1, by decide +kernel, by decide +kernel, by decide +kernel⟩
theorem q_BN_channel : xY y_BN_channel b_BN_channel 8 (some .int) 5 := ⟨wg_646, wg_1, by decide +kernel, by decide +kernel, by decide +kernel⟩
theorem q_BN_alarm : xY y_BN_alarm b_BN_alarm 6 (some .boolean) 5 := ⟨wg_423, wg_1, by decide +kernel, by decide +kernel, by decide +kernel⟩
theorem q_BN_setPoint : xY y_BN_setPoint b_BN_setPoint 5 (some .boolean) 4 := ⟨wg_447, wg_1, by decide +kernel, by decide +kernel, by decide +kernel⟩
theorem q_BN_seal : xY y_BN_seal b_BN_seal 2 (some .boolean) 1 := ⟨wg_462, wg_1, by decide +kernel, by decide +kernel, by decide +kernel⟩
theorem q_BN_move : xY y_BN_move b_BN_move 3 (some .boolean) 2 := ⟨wg_466, wg_1, by decide +kernel, by decide +kernel, by decide +kernel⟩
theorem q_BN_patient : xY y_BN_patient b_BN_patient 4 (some .boolean) 2 := ⟨wg_474, wg_1, by decide +kernel, by decide +kernel, by decide +kernel⟩
theorem q_BN_confirm : xY y_BN_confirm b_BN_confirm 4 (some .boolean) 1 := ⟨wg_478, wg_1, by decide +kernel, by decide +kernel, by decide +kernel⟩
theorem q_BN_sample : xY y_BN_sample b_BN_sample 5 (some .boolean) 3 := ⟨wg_486, wg_1, by decide +kernel, by decide +kernel, by decide +kernel⟩
theorem q_BN_tick : xY y_BN_tick b_BN_tick 3 (some .int) 1 := ⟨wg_740, wg_1, by decide +kernel, by decide +kernel, by decide +kernel⟩
theorem q_BN_repeatValues : xY y_BN_repeatValues b_BN_repeatValues 4 none 0 := ⟨wg_745, wg_1, by decide +kernel, by decide +kernel, by decide +kernel⟩
theorem q_BN_settleAlarms : xY y_BN_settleAlarms b_BN_settleAlarms 4 none 0 := ⟨wg_510, wg_1, by decide +kernel, by decide +kernel, by decide +kernel⟩
theorem q_BN_repeatSounds : xY y_BN_repeatSounds b_BN_repeatSounds 2 none 0 := ⟨wg_749, wg_1, by decide +kernel, by decide +kernel, by decide +kernel⟩
theorem q_BN_carry : xY y_BN_carry b_BN_carry 4 (some .boolean) 2 := ⟨wg_525, wg_1, by decide +kernel, by decide +kernel, by decide +kernel⟩
theorem q_BN_drop : xY y_BN_drop b_BN_drop 3 (some .boolean) 1 := ⟨wg_581, wg_1, by decide +kernel, by decide +kernel, by decide +kernel⟩
theorem q_BN_message : xY y_BN_message b_BN_message 4 (some .int) 2 := ⟨wg_861, wg_1, by decide +kernel, by decide +kernel, by decide +kernel⟩
theorem q_BN_send : xY y_BN_send b_BN_send 5 none 4 := ⟨wg_521, wg_1, by decide +kernel, by decide +kernel, by decide +kernel⟩
theorem q_BN_sendValue : xY y_BN_sendValue b_BN_sendValue 5 none 2 := ⟨wg_502, wg_1, by decide +kernel, by decide +kernel, by decide +kernel⟩
theorem q_BN_sendSounds : xY y_BN_sendSounds b_BN_sendSounds 2 none 1 := ⟨wg_573, wg_1, by decide +kernel, by decide +kernel, by decide +kernel⟩
theorem q_BN_deliver : xY y_BN_deliver b_BN_deliver 2 none 0 := ⟨wg_541, wg_1, by decide +kernel, by decide +kernel, by decide +kernel⟩
theorem q_BN_deliverWithinLife : xY y_BN_deliverWithinLife b_BN_deliverWithinLife 3 none 1 := ⟨wg_557, wg_1, by decide +kernel, by decide +kernel, by decide +kernel⟩
theorem q_BN_learnAlarm : xY y_BN_learnAlarm b_BN_learnAlarm 2 none 1 := ⟨wg_565, wg_1, by decide +kernel, by decide +kernel, by decide +kernel⟩
theorem q_BN_takeOrder : xY y_BN_takeOrder b_BN_takeOrder 3 none 1 := ⟨wg_545, wg_1, by decide +kernel, by decide +kernel, by decide +kernel⟩
theorem q_BN_judge : xY y_BN_judge b_BN_judge 3 (some .int) 2 := ⟨wg_549, wg_1, by decide +kernel, by decide +kernel, by decide +kernel⟩
theorem q_BN_bind : xY y_BN_bind b_BN_bind 6 (some .int) 2 := ⟨wg_756, wg_1, by decide +kernel, by decide +kernel, by decide +kernel⟩
theorem q_BN_shown : xY y_BN_shown b_BN_shown 4 (some .int) 2 := ⟨wg_777, wg_1, by decide +kernel, by decide +kernel, by decide +kernel⟩
theorem q_BN_leastDeviceWith : xY y_BN_leastDeviceWith b_BN_leastDeviceWith 4 (some .int) 2 := ⟨wg_760, wg_1, by decide +kernel, by decide +kernel, by decide +kernel⟩
theorem q_BN_acknowledge : xY y_BN_acknowledge b_BN_acknowledge 4 (some .boolean) 2 := ⟨wg_585, wg_1, by decide +kernel, by decide +kernel, by decide +kernel⟩
theorem q_BN_inhibit : xY y_BN_inhibit b_BN_inhibit 5 (some .boolean) 3 := ⟨wg_593, wg_1, by decide +kernel, by decide +kernel, by decide +kernel⟩
theorem q_BN_lease : xY y_BN_lease b_BN_lease 5 (some .boolean) 2 := ⟨wg_597, wg_1, by decide +kernel, by decide +kernel, by decide +kernel⟩
theorem q_BN_order : xY y_BN_order b_BN_order 6 (some .int) 4 := ⟨wg_814, wg_1, by decide +kernel, by decide +kernel, by decide +kernel⟩
theorem q_BN_local : xY y_BN_local b_BN_local 5 (some .boolean) 3 := ⟨wg_608, wg_1, by decide +kernel, by decide +kernel, by decide +kernel⟩
theorem q_BN_restart : xY y_BN_restart b_BN_restart 2 (some .boolean) 1 := ⟨wg_612, wg_1, by decide +kernel, by decide +kernel, by decide +kernel⟩
theorem q_BN_look : xY y_BN_look b_BN_look 5 (some .int) 2 := ⟨wg_825, wg_1, by decide +kernel, by decide +kernel, by decide +kernel⟩
theorem q_BN_deviceFact : xY y_BN_deviceFact b_BN_deviceFact 3 (some .int) 2 := ⟨wg_829, wg_1, by decide +kernel, by decide +kernel, by decide +kernel⟩
theorem q_BN_channelFact : xY y_BN_channelFact b_BN_channelFact 3 (some .int) 2 := ⟨wg_841, wg_1, by decide +kernel, by decide +kernel, by decide +kernel⟩
theorem q_BN_count : xY y_BN_count b_BN_count 2 (some .int) 1 := ⟨wg_628, wg_1, by decide +kernel, by decide +kernel, by decide +kernel⟩
theorem q_BN_stationSounds : xY y_BN_stationSounds b_BN_stationSounds 2 (some .boolean) 0 := ⟨wg_632, wg_1, by decide +kernel, by decide +kernel, by decide +kernel⟩
theorem q_BN_isDevice : xY y_BN_isDevice b_BN_isDevice 1 (some .boolean) 1 := ⟨wg_412, wg_1, by decide +kernel, by decide +kernel, by decide +kernel⟩
theorem q_BN_isBed : xY y_BN_isBed b_BN_isBed 1 (some .boolean) 1 := ⟨wg_415, wg_1, by decide +kernel, by decide +kernel, by decide +kernel⟩
theorem q_BN_isUnit : xY y_BN_isUnit b_BN_isUnit 1 (some .boolean) 1 := ⟨wg_649, wg_1, by decide +kernel, by decide +kernel, by decide +kernel⟩
theorem q_BN_isController : xY y_BN_isController b_BN_isController 1 (some .boolean) 1 := ⟨wg_600, wg_1, by decide +kernel, by decide +kernel, by decide +kernel⟩
theorem q_BN_isNumber : xY y_BN_isNumber b_BN_isNumber 1 (some .boolean) 1 := ⟨wg_434, wg_1, by decide +kernel, by decide +kernel, by decide +kernel⟩
theorem q_BN_isSpan : xY y_BN_isSpan b_BN_isSpan 1 (some .boolean) 1 := ⟨wg_439, wg_1, by decide +kernel, by decide +kernel, by decide +kernel⟩
theorem q_BN_isRange : xY y_BN_isRange b_BN_isRange 3 (some .boolean) 3 := ⟨wg_450, wg_1, by decide +kernel, by decide +kernel, by decide +kernel⟩
theorem q_BN_isOpen : xY y_BN_isOpen b_BN_isOpen 2 (some .boolean) 1 := ⟨wg_427, wg_1, by decide +kernel, by decide +kernel, by decide +kernel⟩
theorem q_BN_isSealed : xY y_BN_isSealed b_BN_isSealed 2 (some .boolean) 1 := ⟨wg_470, wg_1, by decide +kernel, by decide +kernel, by decide +kernel⟩
theorem q_BN_isSettable : xY y_BN_isSettable b_BN_isSettable 2 (some .boolean) 1 := ⟨wg_604, wg_1, by decide +kernel, by decide +kernel, by decide +kernel⟩
theorem q_MO_init : xY y_MO_init b_MO_init 2 none 0 := ⟨wg_870, wg_12, by decide +kernel, by decide +kernel, by decide +kernel⟩
theorem q_MO_thrown : xY y_MO_thrown b_MO_thrown 1 (some .int) 0 := ⟨wg_1068, wg_12, by decide +kernel, by decide +kernel, by decide +kernel⟩
theorem q_MO_isDevice : xY y_MO_isDevice b_MO_isDevice 1 (some .boolean) 1 := ⟨wg_1075, wg_12, by decide +kernel, by decide +kernel, by decide +kernel⟩
theorem q_MO_isBed : xY y_MO_isBed b_MO_isBed 1 (some .boolean) 1 := ⟨wg_1078, wg_12, by decide +kernel, by decide +kernel, by decide +kernel⟩
theorem q_MO_isAt : xY y_MO_isAt b_MO_isAt 3 (some .boolean) 2 := ⟨wg_1086, wg_12, by decide +kernel, by decide +kernel, by decide +kernel⟩
theorem q_MO_isChannel : xY y_MO_isChannel b_MO_isChannel 3 (some .boolean) 2 := ⟨wg_1102, wg_12, by decide +kernel, by decide +kernel, by decide +kernel⟩
theorem q_MO_isNumber : xY y_MO_isNumber b_MO_isNumber 1 (some .boolean) 1 := ⟨wg_1092, wg_12, by decide +kernel, by decide +kernel, by decide +kernel⟩
theorem q_MO_isRange : xY y_MO_isRange b_MO_isRange 3 (some .boolean) 3 := ⟨wg_1089, wg_12, by decide +kernel, by decide +kernel, by decide +kernel⟩
theorem q_MO_fits : xY y_MO_fits b_MO_fits 4 (some .boolean) 4 := ⟨wg_1153, wg_12, by decide +kernel, by decide +kernel, by decide +kernel⟩
theorem q_MO_forget : xY y_MO_forget b_MO_forget 3 none 1 := ⟨wg_875, wg_12, by decide +kernel, by decide +kernel, by decide +kernel⟩
theorem q_MO_device : xY y_MO_device b_MO_device 4 (some .boolean) 2 := ⟨wg_1072, wg_12, by decide +kernel, by decide +kernel, by decide +kernel⟩
theorem q_MO_channel : xY y_MO_channel b_MO_channel 8 (some .int) 5 := ⟨wg_1082, wg_12, by decide +kernel, by decide +kernel, by decide +kernel⟩
theorem q_MO_alarm : xY y_MO_alarm b_MO_alarm 6 (some .boolean) 5 := ⟨wg_1098, wg_12, by decide +kernel, by decide +kernel, by decide +kernel⟩
theorem q_MO_setPoint : xY y_MO_setPoint b_MO_setPoint 5 (some .boolean) 4 := ⟨wg_1106, wg_12, by decide +kernel, by decide +kernel, by decide +kernel⟩
theorem q_MO_seal : xY y_MO_seal b_MO_seal 2 (some .boolean) 1 := ⟨wg_1110, wg_12, by decide +kernel, by decide +kernel, by decide +kernel⟩
theorem q_MO_untie : xY y_MO_untie b_MO_untie 3 none 1 := ⟨wg_1118, wg_12, by decide +kernel, by decide +kernel, by decide +kernel⟩
theorem q_MO_move : xY y_MO_move b_MO_move 3 (some .boolean) 2 := ⟨wg_1114, wg_12, by decide +kernel, by decide +kernel, by decide +kernel⟩
theorem q_MO_patient : xY y_MO_patient b_MO_patient 4 (some .boolean) 2 := ⟨wg_1142, wg_12, by decide +kernel, by decide +kernel, by decide +kernel⟩
theorem q_MO_confirm : xY y_MO_confirm b_MO_confirm 2 (some .boolean) 1 := ⟨wg_1146, wg_12, by decide +kernel, by decide +kernel, by decide +kernel⟩
theorem q_MO_send : xY y_MO_send b_MO_send 6 none 5 := ⟨wg_1138, wg_12, by decide +kernel, by decide +kernel, by decide +kernel⟩
theorem q_MO_sendValue : xY y_MO_sendValue b_MO_sendValue 4 none 2 := ⟨wg_1157, wg_12, by decide +kernel, by decide +kernel, by decide +kernel⟩
theorem q_MO_sendSounds : xY y_MO_sendSounds b_MO_sendSounds 2 none 1 := ⟨wg_1170, wg_12, by decide +kernel, by decide +kernel, by decide +kernel⟩
theorem q_MO_find : xY y_MO_find b_MO_find 4 (some .int) 1 := ⟨wg_1178, wg_12, by decide +kernel, by decide +kernel, by decide +kernel⟩
theorem q_MO_take : xY y_MO_take b_MO_take 3 none 1 := ⟨wg_1182, wg_12, by decide +kernel, by decide +kernel, by decide +kernel⟩
theorem q_MO_isAbove : xY y_MO_isAbove b_MO_isAbove 2 (some .boolean) 1 := ⟨wg_1130, wg_12, by decide +kernel, by decide +kernel, by decide +kernel⟩
theorem q_MO_isSo : xY y_MO_isSo b_MO_isSo 2 (some .boolean) 1 := ⟨wg_1126, wg_12, by decide +kernel, by decide +kernel, by decide +kernel⟩
theorem q_MO_since : xY y_MO_since b_MO_since 2 (some .int) 1 := ⟨wg_1134, wg_12, by decide +kernel, by decide +kernel, by decide +kernel⟩
theorem q_MO_settle : xY y_MO_settle b_MO_settle 4 none 0 := ⟨wg_1122, wg_12, by decide +kernel, by decide +kernel, by decide +kernel⟩
theorem q_MO_sample : xY y_MO_sample b_MO_sample 6 (some .boolean) 3 := ⟨wg_1150, wg_12, by decide +kernel, by decide +kernel, by decide +kernel⟩
theorem q_MO_knowsLoud : xY y_MO_knowsLoud b_MO_knowsLoud 4 (some .boolean) 1 := ⟨wg_1166, wg_12, by decide +kernel, by decide +kernel, by decide +kernel⟩
theorem q_MO_tick : xY y_MO_tick b_MO_tick 5 (some .int) 1 := ⟨wg_1161, wg_12, by decide +kernel, by decide +kernel, by decide +kernel⟩
theorem q_MO_shows : xY y_MO_shows b_MO_shows 8 none 6 := ⟨wg_1186, wg_12, by decide +kernel, by decide +kernel, by decide +kernel⟩
theorem q_MO_knows : xY y_MO_knows b_MO_knows 5 none 4 := ⟨wg_1190, wg_12, by decide +kernel, by decide +kernel, by decide +kernel⟩
theorem q_MO_judged : xY y_MO_judged b_MO_judged 4 (some .int) 3 := ⟨wg_1198, wg_12, by decide +kernel, by decide +kernel, by decide +kernel⟩
theorem q_MO_orders : xY y_MO_orders b_MO_orders 4 none 3 := ⟨wg_1194, wg_12, by decide +kernel, by decide +kernel, by decide +kernel⟩
theorem q_MO_carry : xY y_MO_carry b_MO_carry 12 (some .boolean) 2 := ⟨wg_1174, wg_12, by decide +kernel, by decide +kernel, by decide +kernel⟩
theorem q_MO_drop : xY y_MO_drop b_MO_drop 3 (some .boolean) 1 := ⟨wg_1202, wg_12, by decide +kernel, by decide +kernel, by decide +kernel⟩
theorem q_MO_bind : xY y_MO_bind b_MO_bind 6 (some .int) 2 := ⟨wg_1206, wg_12, by decide +kernel, by decide +kernel, by decide +kernel⟩
theorem q_MO_shown : xY y_MO_shown b_MO_shown 4 (some .int) 2 := ⟨wg_1210, wg_12, by decide +kernel, by decide +kernel, by decide +kernel⟩
theorem q_MO_acknowledge : xY y_MO_acknowledge b_MO_acknowledge 3 (some .boolean) 2 := ⟨wg_1214, wg_12, by decide +kernel, by decide +kernel, by decide +kernel⟩
theorem q_MO_inhibit : xY y_MO_inhibit b_MO_inhibit 4 (some .boolean) 3 := ⟨wg_1218, wg_12, by decide +kernel, by decide +kernel, by decide +kernel⟩
theorem q_MO_isController : xY y_MO_isController b_MO_isController 1 (some .boolean) 1 := ⟨wg_1225, wg_12, by decide +kernel, by decide +kernel, by decide +kernel⟩
theorem q_MO_isLeased : xY y_MO_isLeased b_MO_isLeased 2 (some .boolean) 1 := ⟨wg_1229, wg_12, by decide +kernel, by decide +kernel, by decide +kernel⟩
theorem q_MO_lease : xY y_MO_lease b_MO_lease 3 (some .boolean) 2 := ⟨wg_1222, wg_12, by decide +kernel, by decide +kernel, by decide +kernel⟩
theorem q_MO_order : xY y_MO_order b_MO_order 6 (some .int) 4 := ⟨wg_1233, wg_12, by decide +kernel, by decide +kernel, by decide +kernel⟩
theorem q_MO_local : xY y_MO_local b_MO_local 4 (some .boolean) 3 := ⟨wg_1237, wg_12, by decide +kernel, by decide +kernel, by decide +kernel⟩
theorem q_MO_restart : xY y_MO_restart b_MO_restart 2 (some .boolean) 1 := ⟨wg_1241, wg_12, by decide +kernel, by decide +kernel, by decide +kernel⟩
theorem q_MO_isLoud : xY y_MO_isLoud b_MO_isLoud 4 (some .boolean) 1 := ⟨wg_1249, wg_12, by decide +kernel, by decide +kernel, by decide +kernel⟩
theorem q_MO_levelOf : xY y_MO_levelOf b_MO_levelOf 4 (some .int) 1 := ⟨wg_1257, wg_12, by decide +kernel, by decide +kernel, by decide +kernel⟩
theorem q_MO_lookChannel : xY y_MO_lookChannel b_MO_lookChannel 5 (some .int) 2 := ⟨wg_1253, wg_12, by decide +kernel, by decide +kernel, by decide +kernel⟩
theorem q_MO_look : xY y_MO_look b_MO_look 4 (some .int) 2 := ⟨wg_1245, wg_12, by decide +kernel, by decide +kernel, by decide +kernel⟩
theorem q_MO_message : xY y_MO_message b_MO_message 4 (some .int) 2 := ⟨wg_1261, wg_12, by decide +kernel, by decide +kernel, by decide +kernel⟩
theorem q_MO_count : xY y_MO_count b_MO_count 4 (some .int) 1 := ⟨wg_1265, wg_12, by decide +kernel, by decide +kernel, by decide +kernel⟩
theorem q_AL_init : xY y_AL_init b_AL_init 1 none 0 := ⟨wg_183, wg_8, by decide +kernel, by decide +kernel, by decide +kernel⟩
theorem q_AL_describe : xY y_AL_describe b_AL_describe 4 none 3 := ⟨wg_443, wg_8, by decide +kernel, by decide +kernel, by decide +kernel⟩
theorem q_AL_watch : xY y_AL_watch b_AL_watch 4 none 2 := ⟨wg_498, wg_8, by decide +kernel, by decide +kernel, by decide +kernel⟩
theorem q_AL_forget : xY y_AL_forget b_AL_forget 1 none 0 := ⟨wg_624, wg_8, by decide +kernel, by decide +kernel, by decide +kernel⟩
theorem q_AL_settle : xY y_AL_settle b_AL_settle 3 (some .boolean) 1 := ⟨wg_514, wg_8, by decide +kernel, by decide +kernel, by decide +kernel⟩
theorem q_AL_hush : xY y_AL_hush b_AL_hush 1 none 0 := ⟨wg_577, wg_8, by decide +kernel, by decide +kernel, by decide +kernel⟩
theorem q_AL_isLoud : xY y_AL_isLoud b_AL_isLoud 1 (some .boolean) 0 := ⟨wg_837, wg_8, by decide +kernel, by decide +kernel, by decide +kernel⟩
theorem q_AL_standing : xY y_AL_standing b_AL_standing 1 (some .int) 0 := ⟨wg_845, wg_8, by decide +kernel, by decide +kernel, by decide +kernel⟩
theorem q_AL_levelAt : xY y_AL_levelAt b_AL_levelAt 4 (some .int) 1 := ⟨wg_849, wg_8, by decide +kernel, by decide +kernel, by decide +kernel⟩
theorem q_CH_init : xY y_CH_init b_CH_init 1 none 0 := ⟨wg_175, wg_7, by decide +kernel, by decide +kernel, by decide +kernel⟩
theorem q_CH_begin : xY y_CH_begin b_CH_begin 5 none 4 := ⟨wg_732, wg_7, by decide +kernel, by decide +kernel, by decide +kernel⟩
theorem q_CH_measure : xY y_CH_measure b_CH_measure 3 none 2 := ⟨wg_494, wg_7, by decide +kernel, by decide +kernel, by decide +kernel⟩
theorem q_CH_forget : xY y_CH_forget b_CH_forget 1 none 0 := ⟨wg_620, wg_7, by decide +kernel, by decide +kernel, by decide +kernel⟩
theorem q_DE_init : xY y_DE_init b_DE_init 2 none 0 := ⟨wg_117, wg_4, by decide +kernel, by decide +kernel, by decide +kernel⟩
theorem q_DE_begin : xY y_DE_begin b_DE_begin 2 none 1 := ⟨wg_419, wg_4, by decide +kernel, by decide +kernel, by decide +kernel⟩
theorem q_DE_beginLife : xY y_DE_beginLife b_DE_beginLife 2 none 0 := ⟨wg_616, wg_4, by decide +kernel, by decide +kernel, by decide +kernel⟩
theorem q_DE_tie : xY y_DE_tie b_DE_tie 3 none 1 := ⟨wg_482, wg_4, by decide +kernel, by decide +kernel, by decide +kernel⟩
theorem q_DE_hasChannel : xY y_DE_hasChannel b_DE_hasChannel 2 (some .boolean) 1 := ⟨wg_431, wg_4, by decide +kernel, by decide +kernel, by decide +kernel⟩
theorem q_DE_leastChannelWith : xY y_DE_leastChannelWith b_DE_leastChannelWith 3 (some .int) 1 := ⟨wg_764, wg_4, by decide +kernel, by decide +kernel, by decide +kernel⟩
theorem q_DE_soundsAt : xY y_DE_soundsAt b_DE_soundsAt 3 (some .boolean) 1 := ⟨wg_833, wg_4, by decide +kernel, by decide +kernel, by decide +kernel⟩
theorem q_DE_soundsAtStation : xY y_DE_soundsAtStation b_DE_soundsAtStation 2 (some .boolean) 0 := ⟨wg_636, wg_4, by decide +kernel, by decide +kernel, by decide +kernel⟩
theorem q_DI_init : xY y_DI_init b_DI_init 1 none 0 := ⟨wg_320, wg_10, by decide +kernel, by decide +kernel, by decide +kernel⟩
theorem q_DI_attach : xY y_DI_attach b_DI_attach 5 none 4 := ⟨wg_768, wg_10, by decide +kernel, by decide +kernel, by decide +kernel⟩
theorem q_DI_hear : xY y_DI_hear b_DI_hear 4 none 2 := ⟨wg_561, wg_10, by decide +kernel, by decide +kernel, by decide +kernel⟩
theorem q_KN_init : xY y_KN_init b_KN_init 1 none 0 := ⟨wg_224, wg_9, by decide +kernel, by decide +kernel, by decide +kernel⟩
theorem q_KN_learn : xY y_KN_learn b_KN_learn 3 none 2 := ⟨wg_569, wg_9, by decide +kernel, by decide +kernel, by decide +kernel⟩
theorem q_KN_sounds : xY y_KN_sounds b_KN_sounds 1 (some .boolean) 0 := ⟨wg_589, wg_9, by decide +kernel, by decide +kernel, by decide +kernel⟩
theorem q_KN_standing : xY y_KN_standing b_KN_standing 1 (some .int) 0 := ⟨wg_854, wg_9, by decide +kernel, by decide +kernel, by decide +kernel⟩
theorem q_ME_init : xY y_ME_init b_ME_init 1 none 0 := ⟨wg_46, wg_3, by decide +kernel, by decide +kernel, by decide +kernel⟩
theorem q_ME_copy : xY y_ME_copy b_ME_copy 2 none 1 := ⟨wg_533, wg_3, by decide +kernel, by decide +kernel, by decide +kernel⟩
theorem q_ME_fact : xY y_ME_fact b_ME_fact 2 (some .int) 1 := ⟨wg_865, wg_3, by decide +kernel, by decide +kernel, by decide +kernel⟩
theorem q_OR_init : xY y_OR_init b_OR_init 1 none 0 := ⟨wg_356, wg_11, by decide +kernel, by decide +kernel, by decide +kernel⟩
theorem q_OR_write : xY y_OR_write b_OR_write 4 none 3 := ⟨wg_818, wg_11, by decide +kernel, by decide +kernel, by decide +kernel⟩
theorem q_PO_init : xY y_PO_init b_PO_init 2 none 0 := ⟨wg_39, wg_2, by decide +kernel, by decide +kernel, by decide +kernel⟩
theorem q_PO_send : xY y_PO_send b_PO_send 9 none 7 := ⟨wg_506, wg_2, by decide +kernel, by decide +kernel, by decide +kernel⟩
theorem q_PO_indexOf : xY y_PO_indexOf b_PO_indexOf 3 (some .int) 1 := ⟨wg_529, wg_2, by decide +kernel, by decide +kernel, by decide +kernel⟩
theorem q_PO_remove : xY y_PO_remove b_PO_remove 4 none 1 := ⟨wg_537, wg_2, by decide +kernel, by decide +kernel, by decide +kernel⟩
theorem q_RA_init : xY y_RA_init b_RA_init 1 none 0 := ⟨wg_131, wg_6, by decide +kernel, by decide +kernel, by decide +kernel⟩
theorem q_RA_set : xY y_RA_set b_RA_set 4 none 3 := ⟨wg_458, wg_6, by decide +kernel, by decide +kernel, by decide +kernel⟩
theorem q_RA_fits : xY y_RA_fits b_RA_fits 2 (some .boolean) 1 := ⟨wg_490, wg_6, by decide +kernel, by decide +kernel, by decide +kernel⟩
theorem q_SE_init : xY y_SE_init b_SE_init 1 none 0 := ⟨wg_125, wg_5, by decide +kernel, by decide +kernel, by decide +kernel⟩
theorem q_SE_describe : xY y_SE_describe b_SE_describe 4 none 3 := ⟨wg_454, wg_5, by decide +kernel, by decide +kernel, by decide +kernel⟩
theorem q_SE_holderAt : xY y_SE_holderAt b_SE_holderAt 2 (some .int) 1 := ⟨wg_553, wg_5, by decide +kernel, by decide +kernel, by decide +kernel⟩
end
