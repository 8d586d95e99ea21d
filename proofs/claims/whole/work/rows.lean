section
-- ===== PART A: goes FIRST, ahead of the names: the tables' words, and 'selects' of the private methods out of them =====
/-- a private method of a class that the tables say can be made, by its rows of tables_1 -/
def lw_okq (q : MethodName × Nat) : Prop := (q.1.cls ≠ "java/lang/invoke/MethodHandle" ∧ q.1.cls ≠ "java/lang/invoke/VarHandle") ∧ Cond.instantiable q.1.cls q.2 ∈ tables_1 ∧ Cond.privateMethod q.1 ∈ tables_1 ∧ Cond.instanceMethod q.1 ∈ tables_1
theorem lw_p0 : lw_okq (⟨"ScreenDesk", "reset", "()V"⟩, 7) := ⟨⟨by decide +kernel, by decide +kernel⟩, List.mem_of_getElem? (i := 17) (by decide +kernel), List.mem_of_getElem? (i := 184) (by decide +kernel), List.mem_of_getElem? (i := 185) (by decide +kernel)⟩
theorem lw_p1 : lw_okq (⟨"ScreenDesk", "take", "(I)V"⟩, 7) := ⟨⟨by decide +kernel, by decide +kernel⟩, List.mem_of_getElem? (i := 17) (by decide +kernel), List.mem_of_getElem? (i := 246) (by decide +kernel), List.mem_of_getElem? (i := 247) (by decide +kernel)⟩
theorem lw_p2 : lw_okq (⟨"ScreenDesk", "takeFurther", "(I)V"⟩, 7) := ⟨⟨by decide +kernel, by decide +kernel⟩, List.mem_of_getElem? (i := 17) (by decide +kernel), List.mem_of_getElem? (i := 250) (by decide +kernel), List.mem_of_getElem? (i := 251) (by decide +kernel)⟩
theorem lw_p3 : lw_okq (⟨"ScreenDesk$Screen", "regionStart", "()I"⟩, 12) := ⟨⟨by decide +kernel, by decide +kernel⟩, List.mem_of_getElem? (i := 25) (by decide +kernel), List.mem_of_getElem? (i := 278) (by decide +kernel), List.mem_of_getElem? (i := 279) (by decide +kernel)⟩
theorem lw_p4 : lw_okq (⟨"ScreenDesk$Screen", "regionEnd", "()I"⟩, 12) := ⟨⟨by decide +kernel, by decide +kernel⟩, List.mem_of_getElem? (i := 25) (by decide +kernel), List.mem_of_getElem? (i := 282) (by decide +kernel), List.mem_of_getElem? (i := 283) (by decide +kernel)⟩
theorem lw_p5 : lw_okq (⟨"ScreenDesk$Screen", "cell", "()I"⟩, 12) := ⟨⟨by decide +kernel, by decide +kernel⟩, List.mem_of_getElem? (i := 25) (by decide +kernel), List.mem_of_getElem? (i := 290) (by decide +kernel), List.mem_of_getElem? (i := 291) (by decide +kernel)⟩
theorem lw_p6 : lw_okq (⟨"ScreenDesk$Screen", "rowStart", "()I"⟩, 12) := ⟨⟨by decide +kernel, by decide +kernel⟩, List.mem_of_getElem? (i := 25) (by decide +kernel), List.mem_of_getElem? (i := 294) (by decide +kernel), List.mem_of_getElem? (i := 295) (by decide +kernel)⟩
theorem lw_p7 : lw_okq (⟨"ScreenDesk$Screen", "rowEnd", "()I"⟩, 12) := ⟨⟨by decide +kernel, by decide +kernel⟩, List.mem_of_getElem? (i := 25) (by decide +kernel), List.mem_of_getElem? (i := 298) (by decide +kernel), List.mem_of_getElem? (i := 299) (by decide +kernel)⟩
theorem lw_p8 : lw_okq (⟨"ScreenDesk", "control", "(I)V"⟩, 7) := ⟨⟨by decide +kernel, by decide +kernel⟩, List.mem_of_getElem? (i := 17) (by decide +kernel), List.mem_of_getElem? (i := 311) (by decide +kernel), List.mem_of_getElem? (i := 312) (by decide +kernel)⟩
theorem lw_p9 : lw_okq (⟨"ScreenDesk", "takeInGround", "(I)V"⟩, 7) := ⟨⟨by decide +kernel, by decide +kernel⟩, List.mem_of_getElem? (i := 17) (by decide +kernel), List.mem_of_getElem? (i := 340) (by decide +kernel), List.mem_of_getElem? (i := 341) (by decide +kernel)⟩
theorem lw_p10 : lw_okq (⟨"ScreenDesk$Letter", "start", "(III)V"⟩, 3) := ⟨⟨by decide +kernel, by decide +kernel⟩, List.mem_of_getElem? (i := 123) (by decide +kernel), List.mem_of_getElem? (i := 348) (by decide +kernel), List.mem_of_getElem? (i := 349) (by decide +kernel)⟩
theorem lw_p11 : lw_okq (⟨"ScreenDesk", "takeInEscape", "(I)V"⟩, 7) := ⟨⟨by decide +kernel, by decide +kernel⟩, List.mem_of_getElem? (i := 17) (by decide +kernel), List.mem_of_getElem? (i := 353) (by decide +kernel), List.mem_of_getElem? (i := 354) (by decide +kernel)⟩
theorem lw_p12 : lw_okq (⟨"ScreenDesk", "takeInTitle", "(I)V"⟩, 7) := ⟨⟨by decide +kernel, by decide +kernel⟩, List.mem_of_getElem? (i := 17) (by decide +kernel), List.mem_of_getElem? (i := 377) (by decide +kernel), List.mem_of_getElem? (i := 378) (by decide +kernel)⟩
theorem lw_p13 : lw_okq (⟨"ScreenDesk", "takeBeforeEnd", "(I)V"⟩, 7) := ⟨⟨by decide +kernel, by decide +kernel⟩, List.mem_of_getElem? (i := 17) (by decide +kernel), List.mem_of_getElem? (i := 389) (by decide +kernel), List.mem_of_getElem? (i := 390) (by decide +kernel)⟩
theorem lw_p14 : lw_okq (⟨"ScreenDesk", "doSequence", "(I)V"⟩, 7) := ⟨⟨by decide +kernel, by decide +kernel⟩, List.mem_of_getElem? (i := 17) (by decide +kernel), List.mem_of_getElem? (i := 407) (by decide +kernel), List.mem_of_getElem? (i := 408) (by decide +kernel)⟩
theorem lw_p15 : lw_okq (⟨"ScreenDesk", "doPrivate", "(I)V"⟩, 7) := ⟨⟨by decide +kernel, by decide +kernel⟩, List.mem_of_getElem? (i := 17) (by decide +kernel), List.mem_of_getElem? (i := 411) (by decide +kernel), List.mem_of_getElem? (i := 412) (by decide +kernel)⟩
def lw_privs_1 : List (MethodName × Nat) := [(⟨"ScreenDesk", "reset", "()V"⟩, 7), (⟨"ScreenDesk", "take", "(I)V"⟩, 7), (⟨"ScreenDesk", "takeFurther", "(I)V"⟩, 7), (⟨"ScreenDesk$Screen", "regionStart", "()I"⟩, 12), (⟨"ScreenDesk$Screen", "regionEnd", "()I"⟩, 12), (⟨"ScreenDesk$Screen", "cell", "()I"⟩, 12), (⟨"ScreenDesk$Screen", "rowStart", "()I"⟩, 12), (⟨"ScreenDesk$Screen", "rowEnd", "()I"⟩, 12), (⟨"ScreenDesk", "control", "(I)V"⟩, 7), (⟨"ScreenDesk", "takeInGround", "(I)V"⟩, 7), (⟨"ScreenDesk$Letter", "start", "(III)V"⟩, 3), (⟨"ScreenDesk", "takeInEscape", "(I)V"⟩, 7), (⟨"ScreenDesk", "takeInTitle", "(I)V"⟩, 7), (⟨"ScreenDesk", "takeBeforeEnd", "(I)V"⟩, 7), (⟨"ScreenDesk", "doSequence", "(I)V"⟩, 7), (⟨"ScreenDesk", "doPrivate", "(I)V"⟩, 7)]
theorem lw_r1 : ∀ q ∈ lw_privs_1, lw_okq q := List.forall_mem_cons.mpr ⟨lw_p0, List.forall_mem_cons.mpr ⟨lw_p1, List.forall_mem_cons.mpr ⟨lw_p2, List.forall_mem_cons.mpr ⟨lw_p3, List.forall_mem_cons.mpr ⟨lw_p4, List.forall_mem_cons.mpr ⟨lw_p5, List.forall_mem_cons.mpr ⟨lw_p6, List.forall_mem_cons.mpr ⟨lw_p7, List.forall_mem_cons.mpr ⟨lw_p8, List.forall_mem_cons.mpr ⟨lw_p9, List.forall_mem_cons.mpr ⟨lw_p10, List.forall_mem_cons.mpr ⟨lw_p11, List.forall_mem_cons.mpr ⟨lw_p12, List.forall_mem_cons.mpr ⟨lw_p13, List.forall_mem_cons.mpr ⟨lw_p14, List.forall_mem_cons.mpr ⟨lw_p15, fun _ h => absurd h List.not_mem_nil⟩⟩⟩⟩⟩⟩⟩⟩⟩⟩⟩⟩⟩⟩⟩⟩
theorem lw_p16 : lw_okq (⟨"ScreenDesk$Screen", "showPage", "(Z)V"⟩, 12) := ⟨⟨by decide +kernel, by decide +kernel⟩, List.mem_of_getElem? (i := 25) (by decide +kernel), List.mem_of_getElem? (i := 431) (by decide +kernel), List.mem_of_getElem? (i := 432) (by decide +kernel)⟩
theorem lw_p17 : lw_okq (⟨"ScreenDesk$Screen", "clearWithin", "(III)V"⟩, 12) := ⟨⟨by decide +kernel, by decide +kernel⟩, List.mem_of_getElem? (i := 25) (by decide +kernel), List.mem_of_getElem? (i := 456) (by decide +kernel), List.mem_of_getElem? (i := 457) (by decide +kernel)⟩
theorem lw_p18 : lw_okq (⟨"ScreenDesk$Screen", "isInRegion", "()Z"⟩, 12) := ⟨⟨by decide +kernel, by decide +kernel⟩, List.mem_of_getElem? (i := 25) (by decide +kernel), List.mem_of_getElem? (i := 480) (by decide +kernel), List.mem_of_getElem? (i := 481) (by decide +kernel)⟩
theorem lw_p19 : lw_okq (⟨"ScreenDesk", "paintAll", "()V"⟩, 7) := ⟨⟨by decide +kernel, by decide +kernel⟩, List.mem_of_getElem? (i := 17) (by decide +kernel), List.mem_of_getElem? (i := 501) (by decide +kernel), List.mem_of_getElem? (i := 502) (by decide +kernel)⟩
theorem lw_p20 : lw_okq (⟨"ScreenDesk$Cursor", "setColour", "(I)V"⟩, 5) := ⟨⟨by decide +kernel, by decide +kernel⟩, List.mem_of_getElem? (i := 47) (by decide +kernel), List.mem_of_getElem? (i := 510) (by decide +kernel), List.mem_of_getElem? (i := 511) (by decide +kernel)⟩
theorem lw_p21 : lw_okq (⟨"ScreenDesk$Cursor", "setGround", "(I)V"⟩, 5) := ⟨⟨by decide +kernel, by decide +kernel⟩, List.mem_of_getElem? (i := 47) (by decide +kernel), List.mem_of_getElem? (i := 514) (by decide +kernel), List.mem_of_getElem? (i := 515) (by decide +kernel)⟩
theorem lw_p22 : lw_okq (⟨"ScreenDesk$Cursor", "paintColour", "(I)V"⟩, 5) := ⟨⟨by decide +kernel, by decide +kernel⟩, List.mem_of_getElem? (i := 47) (by decide +kernel), List.mem_of_getElem? (i := 518) (by decide +kernel), List.mem_of_getElem? (i := 519) (by decide +kernel)⟩
theorem lw_p23 : lw_okq (⟨"ScreenDesk", "switchInsert", "(Z)V"⟩, 7) := ⟨⟨by decide +kernel, by decide +kernel⟩, List.mem_of_getElem? (i := 17) (by decide +kernel), List.mem_of_getElem? (i := 530) (by decide +kernel), List.mem_of_getElem? (i := 531) (by decide +kernel)⟩
theorem lw_p24 : lw_okq (⟨"ScreenDesk", "answer", "(I)V"⟩, 7) := ⟨⟨by decide +kernel, by decide +kernel⟩, List.mem_of_getElem? (i := 17) (by decide +kernel), List.mem_of_getElem? (i := 534) (by decide +kernel), List.mem_of_getElem? (i := 535) (by decide +kernel)⟩
theorem lw_p25 : lw_okq (⟨"ScreenDesk$Replies", "hasRoom", "(I)Z"⟩, 2) := ⟨⟨by decide +kernel, by decide +kernel⟩, List.mem_of_getElem? (i := 170) (by decide +kernel), List.mem_of_getElem? (i := 542) (by decide +kernel), List.mem_of_getElem? (i := 543) (by decide +kernel)⟩
theorem lw_p26 : lw_okq (⟨"ScreenDesk$Replies", "add", "(I)V"⟩, 2) := ⟨⟨by decide +kernel, by decide +kernel⟩, List.mem_of_getElem? (i := 170) (by decide +kernel), List.mem_of_getElem? (i := 546) (by decide +kernel), List.mem_of_getElem? (i := 547) (by decide +kernel)⟩
theorem lw_p27 : lw_okq (⟨"java/lang/Throwable", "fillInStackTrace", "(I)Ljava/lang/Throwable;"⟩, 6) := ⟨⟨by decide +kernel, by decide +kernel⟩, List.mem_of_getElem? (i := 668) (by decide +kernel), List.mem_of_getElem? (i := 666) (by decide +kernel), List.mem_of_getElem? (i := 667) (by decide +kernel)⟩
theorem lw_p28 : lw_okq (⟨"ScreenDeskModel", "first", "()V"⟩, 40) := ⟨⟨by decide +kernel, by decide +kernel⟩, List.mem_of_getElem? (i := 727) (by decide +kernel), List.mem_of_getElem? (i := 733) (by decide +kernel), List.mem_of_getElem? (i := 734) (by decide +kernel)⟩
theorem lw_p29 : lw_okq (⟨"ScreenDeskModel", "blank", "(I)V"⟩, 40) := ⟨⟨by decide +kernel, by decide +kernel⟩, List.mem_of_getElem? (i := 727) (by decide +kernel), List.mem_of_getElem? (i := 737) (by decide +kernel), List.mem_of_getElem? (i := 738) (by decide +kernel)⟩
theorem lw_p30 : lw_okq (⟨"ScreenDeskModel", "place", "(II)V"⟩, 40) := ⟨⟨by decide +kernel, by decide +kernel⟩, List.mem_of_getElem? (i := 727) (by decide +kernel), List.mem_of_getElem? (i := 741) (by decide +kernel), List.mem_of_getElem? (i := 742) (by decide +kernel)⟩
theorem lw_p31 : lw_okq (⟨"ScreenDeskModel", "setPen", "(I)V"⟩, 40) := ⟨⟨by decide +kernel, by decide +kernel⟩, List.mem_of_getElem? (i := 727) (by decide +kernel), List.mem_of_getElem? (i := 745) (by decide +kernel), List.mem_of_getElem? (i := 746) (by decide +kernel)⟩
def lw_privs_2 : List (MethodName × Nat) := [(⟨"ScreenDesk$Screen", "showPage", "(Z)V"⟩, 12), (⟨"ScreenDesk$Screen", "clearWithin", "(III)V"⟩, 12), (⟨"ScreenDesk$Screen", "isInRegion", "()Z"⟩, 12), (⟨"ScreenDesk", "paintAll", "()V"⟩, 7), (⟨"ScreenDesk$Cursor", "setColour", "(I)V"⟩, 5), (⟨"ScreenDesk$Cursor", "setGround", "(I)V"⟩, 5), (⟨"ScreenDesk$Cursor", "paintColour", "(I)V"⟩, 5), (⟨"ScreenDesk", "switchInsert", "(Z)V"⟩, 7), (⟨"ScreenDesk", "answer", "(I)V"⟩, 7), (⟨"ScreenDesk$Replies", "hasRoom", "(I)Z"⟩, 2), (⟨"ScreenDesk$Replies", "add", "(I)V"⟩, 2), (⟨"java/lang/Throwable", "fillInStackTrace", "(I)Ljava/lang/Throwable;"⟩, 6), (⟨"ScreenDeskModel", "first", "()V"⟩, 40), (⟨"ScreenDeskModel", "blank", "(I)V"⟩, 40), (⟨"ScreenDeskModel", "place", "(II)V"⟩, 40), (⟨"ScreenDeskModel", "setPen", "(I)V"⟩, 40)]
theorem lw_r2 : ∀ q ∈ lw_privs_2, lw_okq q := List.forall_mem_cons.mpr ⟨lw_p16, List.forall_mem_cons.mpr ⟨lw_p17, List.forall_mem_cons.mpr ⟨lw_p18, List.forall_mem_cons.mpr ⟨lw_p19, List.forall_mem_cons.mpr ⟨lw_p20, List.forall_mem_cons.mpr ⟨lw_p21, List.forall_mem_cons.mpr ⟨lw_p22, List.forall_mem_cons.mpr ⟨lw_p23, List.forall_mem_cons.mpr ⟨lw_p24, List.forall_mem_cons.mpr ⟨lw_p25, List.forall_mem_cons.mpr ⟨lw_p26, List.forall_mem_cons.mpr ⟨lw_p27, List.forall_mem_cons.mpr ⟨lw_p28, List.forall_mem_cons.mpr ⟨lw_p29, List.forall_mem_cons.mpr ⟨lw_p30, List.forall_mem_cons.mpr ⟨lw_p31, fun _ h => absurd h List.not_mem_nil⟩⟩⟩⟩⟩⟩⟩⟩⟩⟩⟩⟩⟩⟩⟩⟩
theorem lw_p32 : lw_okq (⟨"ScreenDeskModel", "save", "()V"⟩, 40) := ⟨⟨by decide +kernel, by decide +kernel⟩, List.mem_of_getElem? (i := 727) (by decide +kernel), List.mem_of_getElem? (i := 749) (by decide +kernel), List.mem_of_getElem? (i := 750) (by decide +kernel)⟩
theorem lw_p33 : lw_okq (⟨"ScreenDeskModel", "penNow", "()I"⟩, 40) := ⟨⟨by decide +kernel, by decide +kernel⟩, List.mem_of_getElem? (i := 727) (by decide +kernel), List.mem_of_getElem? (i := 753) (by decide +kernel), List.mem_of_getElem? (i := 754) (by decide +kernel)⟩
theorem lw_p34 : lw_okq (⟨"ScreenDeskModel", "take", "(I)V"⟩, 40) := ⟨⟨by decide +kernel, by decide +kernel⟩, List.mem_of_getElem? (i := 727) (by decide +kernel), List.mem_of_getElem? (i := 887) (by decide +kernel), List.mem_of_getElem? (i := 888) (by decide +kernel)⟩
theorem lw_p35 : lw_okq (⟨"ScreenDeskModel", "further", "(I)V"⟩, 40) := ⟨⟨by decide +kernel, by decide +kernel⟩, List.mem_of_getElem? (i := 727) (by decide +kernel), List.mem_of_getElem? (i := 891) (by decide +kernel), List.mem_of_getElem? (i := 892) (by decide +kernel)⟩
theorem lw_p36 : lw_okq (⟨"ScreenDeskModel", "print", "(I)V"⟩, 40) := ⟨⟨by decide +kernel, by decide +kernel⟩, List.mem_of_getElem? (i := 727) (by decide +kernel), List.mem_of_getElem? (i := 900) (by decide +kernel), List.mem_of_getElem? (i := 901) (by decide +kernel)⟩
theorem lw_p37 : lw_okq (⟨"ScreenDeskModel", "feeding", "()V"⟩, 40) := ⟨⟨by decide +kernel, by decide +kernel⟩, List.mem_of_getElem? (i := 727) (by decide +kernel), List.mem_of_getElem? (i := 904) (by decide +kernel), List.mem_of_getElem? (i := 905) (by decide +kernel)⟩
theorem lw_p38 : lw_okq (⟨"ScreenDeskModel", "shiftRows", "(II)V"⟩, 40) := ⟨⟨by decide +kernel, by decide +kernel⟩, List.mem_of_getElem? (i := 727) (by decide +kernel), List.mem_of_getElem? (i := 908) (by decide +kernel), List.mem_of_getElem? (i := 909) (by decide +kernel)⟩
theorem lw_p39 : lw_okq (⟨"ScreenDeskModel", "remember", "()V"⟩, 40) := ⟨⟨by decide +kernel, by decide +kernel⟩, List.mem_of_getElem? (i := 727) (by decide +kernel), List.mem_of_getElem? (i := 912) (by decide +kernel), List.mem_of_getElem? (i := 913) (by decide +kernel)⟩
theorem lw_p40 : lw_okq (⟨"ScreenDeskModel", "recall", "(II)V"⟩, 40) := ⟨⟨by decide +kernel, by decide +kernel⟩, List.mem_of_getElem? (i := 727) (by decide +kernel), List.mem_of_getElem? (i := 916) (by decide +kernel), List.mem_of_getElem? (i := 917) (by decide +kernel)⟩
theorem lw_p41 : lw_okq (⟨"ScreenDeskModel", "shiftCells", "(I)V"⟩, 40) := ⟨⟨by decide +kernel, by decide +kernel⟩, List.mem_of_getElem? (i := 727) (by decide +kernel), List.mem_of_getElem? (i := 920) (by decide +kernel), List.mem_of_getElem? (i := 921) (by decide +kernel)⟩
theorem lw_p42 : lw_okq (⟨"ScreenDeskModel", "control", "(I)V"⟩, 40) := ⟨⟨by decide +kernel, by decide +kernel⟩, List.mem_of_getElem? (i := 727) (by decide +kernel), List.mem_of_getElem? (i := 924) (by decide +kernel), List.mem_of_getElem? (i := 925) (by decide +kernel)⟩
theorem lw_p43 : lw_okq (⟨"ScreenDeskModel", "letterByte", "(I)V"⟩, 40) := ⟨⟨by decide +kernel, by decide +kernel⟩, List.mem_of_getElem? (i := 727) (by decide +kernel), List.mem_of_getElem? (i := 928) (by decide +kernel), List.mem_of_getElem? (i := 929) (by decide +kernel)⟩
theorem lw_p44 : lw_okq (⟨"ScreenDeskModel", "sequenceByte", "(I)V"⟩, 40) := ⟨⟨by decide +kernel, by decide +kernel⟩, List.mem_of_getElem? (i := 727) (by decide +kernel), List.mem_of_getElem? (i := 932) (by decide +kernel), List.mem_of_getElem? (i := 933) (by decide +kernel)⟩
theorem lw_p45 : lw_okq (⟨"ScreenDeskModel", "escape", "(I)V"⟩, 40) := ⟨⟨by decide +kernel, by decide +kernel⟩, List.mem_of_getElem? (i := 727) (by decide +kernel), List.mem_of_getElem? (i := 936) (by decide +kernel), List.mem_of_getElem? (i := 937) (by decide +kernel)⟩
theorem lw_p46 : lw_okq (⟨"ScreenDeskModel", "bring", "()V"⟩, 40) := ⟨⟨by decide +kernel, by decide +kernel⟩, List.mem_of_getElem? (i := 727) (by decide +kernel), List.mem_of_getElem? (i := 940) (by decide +kernel), List.mem_of_getElem? (i := 941) (by decide +kernel)⟩
theorem lw_p47 : lw_okq (⟨"ScreenDeskModel", "backing", "()V"⟩, 40) := ⟨⟨by decide +kernel, by decide +kernel⟩, List.mem_of_getElem? (i := 727) (by decide +kernel), List.mem_of_getElem? (i := 944) (by decide +kernel), List.mem_of_getElem? (i := 945) (by decide +kernel)⟩
def lw_privs_3 : List (MethodName × Nat) := [(⟨"ScreenDeskModel", "save", "()V"⟩, 40), (⟨"ScreenDeskModel", "penNow", "()I"⟩, 40), (⟨"ScreenDeskModel", "take", "(I)V"⟩, 40), (⟨"ScreenDeskModel", "further", "(I)V"⟩, 40), (⟨"ScreenDeskModel", "print", "(I)V"⟩, 40), (⟨"ScreenDeskModel", "feeding", "()V"⟩, 40), (⟨"ScreenDeskModel", "shiftRows", "(II)V"⟩, 40), (⟨"ScreenDeskModel", "remember", "()V"⟩, 40), (⟨"ScreenDeskModel", "recall", "(II)V"⟩, 40), (⟨"ScreenDeskModel", "shiftCells", "(I)V"⟩, 40), (⟨"ScreenDeskModel", "control", "(I)V"⟩, 40), (⟨"ScreenDeskModel", "letterByte", "(I)V"⟩, 40), (⟨"ScreenDeskModel", "sequenceByte", "(I)V"⟩, 40), (⟨"ScreenDeskModel", "escape", "(I)V"⟩, 40), (⟨"ScreenDeskModel", "bring", "()V"⟩, 40), (⟨"ScreenDeskModel", "backing", "()V"⟩, 40)]
theorem lw_r3 : ∀ q ∈ lw_privs_3, lw_okq q := List.forall_mem_cons.mpr ⟨lw_p32, List.forall_mem_cons.mpr ⟨lw_p33, List.forall_mem_cons.mpr ⟨lw_p34, List.forall_mem_cons.mpr ⟨lw_p35, List.forall_mem_cons.mpr ⟨lw_p36, List.forall_mem_cons.mpr ⟨lw_p37, List.forall_mem_cons.mpr ⟨lw_p38, List.forall_mem_cons.mpr ⟨lw_p39, List.forall_mem_cons.mpr ⟨lw_p40, List.forall_mem_cons.mpr ⟨lw_p41, List.forall_mem_cons.mpr ⟨lw_p42, List.forall_mem_cons.mpr ⟨lw_p43, List.forall_mem_cons.mpr ⟨lw_p44, List.forall_mem_cons.mpr ⟨lw_p45, List.forall_mem_cons.mpr ⟨lw_p46, List.forall_mem_cons.mpr ⟨lw_p47, fun _ h => absurd h List.not_mem_nil⟩⟩⟩⟩⟩⟩⟩⟩⟩⟩⟩⟩⟩⟩⟩⟩
theorem lw_p48 : lw_okq (⟨"ScreenDeskModel", "sequence", "(I)V"⟩, 40) := ⟨⟨by decide +kernel, by decide +kernel⟩, List.mem_of_getElem? (i := 727) (by decide +kernel), List.mem_of_getElem? (i := 948) (by decide +kernel), List.mem_of_getElem? (i := 949) (by decide +kernel)⟩
theorem lw_p49 : lw_okq (⟨"ScreenDeskModel", "privately", "(I)V"⟩, 40) := ⟨⟨by decide +kernel, by decide +kernel⟩, List.mem_of_getElem? (i := 727) (by decide +kernel), List.mem_of_getElem? (i := 952) (by decide +kernel), List.mem_of_getElem? (i := 953) (by decide +kernel)⟩
theorem lw_p50 : lw_okq (⟨"ScreenDeskModel", "kept", "()I"⟩, 40) := ⟨⟨by decide +kernel, by decide +kernel⟩, List.mem_of_getElem? (i := 727) (by decide +kernel), List.mem_of_getElem? (i := 956) (by decide +kernel), List.mem_of_getElem? (i := 957) (by decide +kernel)⟩
theorem lw_p51 : lw_okq (⟨"ScreenDeskModel", "home", "(II)V"⟩, 40) := ⟨⟨by decide +kernel, by decide +kernel⟩, List.mem_of_getElem? (i := 727) (by decide +kernel), List.mem_of_getElem? (i := 960) (by decide +kernel), List.mem_of_getElem? (i := 961) (by decide +kernel)⟩
theorem lw_p52 : lw_okq (⟨"ScreenDeskModel", "clear", "(II)V"⟩, 40) := ⟨⟨by decide +kernel, by decide +kernel⟩, List.mem_of_getElem? (i := 727) (by decide +kernel), List.mem_of_getElem? (i := 967) (by decide +kernel), List.mem_of_getElem? (i := 968) (by decide +kernel)⟩
theorem lw_p53 : lw_okq (⟨"ScreenDeskModel", "doIt", "(II)V"⟩, 40) := ⟨⟨by decide +kernel, by decide +kernel⟩, List.mem_of_getElem? (i := 727) (by decide +kernel), List.mem_of_getElem? (i := 971) (by decide +kernel), List.mem_of_getElem? (i := 972) (by decide +kernel)⟩
theorem lw_p54 : lw_okq (⟨"ScreenDeskModel", "above", "(I)I"⟩, 40) := ⟨⟨by decide +kernel, by decide +kernel⟩, List.mem_of_getElem? (i := 727) (by decide +kernel), List.mem_of_getElem? (i := 975) (by decide +kernel), List.mem_of_getElem? (i := 976) (by decide +kernel)⟩
theorem lw_p55 : lw_okq (⟨"ScreenDeskModel", "below", "(I)I"⟩, 40) := ⟨⟨by decide +kernel, by decide +kernel⟩, List.mem_of_getElem? (i := 727) (by decide +kernel), List.mem_of_getElem? (i := 982) (by decide +kernel), List.mem_of_getElem? (i := 983) (by decide +kernel)⟩
theorem lw_p56 : lw_okq (⟨"ScreenDeskModel", "change", "(II)V"⟩, 40) := ⟨⟨by decide +kernel, by decide +kernel⟩, List.mem_of_getElem? (i := 727) (by decide +kernel), List.mem_of_getElem? (i := 986) (by decide +kernel), List.mem_of_getElem? (i := 987) (by decide +kernel)⟩
theorem lw_p57 : lw_okq (⟨"ScreenDeskModel", "set", "(II)V"⟩, 40) := ⟨⟨by decide +kernel, by decide +kernel⟩, List.mem_of_getElem? (i := 727) (by decide +kernel), List.mem_of_getElem? (i := 990) (by decide +kernel), List.mem_of_getElem? (i := 991) (by decide +kernel)⟩
theorem lw_p58 : lw_okq (⟨"ScreenDeskModel", "dip", "(I)V"⟩, 40) := ⟨⟨by decide +kernel, by decide +kernel⟩, List.mem_of_getElem? (i := 727) (by decide +kernel), List.mem_of_getElem? (i := 994) (by decide +kernel), List.mem_of_getElem? (i := 995) (by decide +kernel)⟩
theorem lw_p59 : lw_okq (⟨"ScreenDeskModel", "answer", "(I)V"⟩, 40) := ⟨⟨by decide +kernel, by decide +kernel⟩, List.mem_of_getElem? (i := 727) (by decide +kernel), List.mem_of_getElem? (i := 998) (by decide +kernel), List.mem_of_getElem? (i := 999) (by decide +kernel)⟩
theorem lw_p60 : lw_okq (⟨"ScreenDeskModel", "put", "(I)V"⟩, 40) := ⟨⟨by decide +kernel, by decide +kernel⟩, List.mem_of_getElem? (i := 727) (by decide +kernel), List.mem_of_getElem? (i := 1002) (by decide +kernel), List.mem_of_getElem? (i := 1003) (by decide +kernel)⟩
theorem lw_p61 : lw_okq (⟨"ScreenDeskModel", "titleByte", "(I)V"⟩, 40) := ⟨⟨by decide +kernel, by decide +kernel⟩, List.mem_of_getElem? (i := 727) (by decide +kernel), List.mem_of_getElem? (i := 1006) (by decide +kernel), List.mem_of_getElem? (i := 1007) (by decide +kernel)⟩
theorem lw_p62 : lw_okq (⟨"ScreenDeskModel", "isCell", "(II)Z"⟩, 40) := ⟨⟨by decide +kernel, by decide +kernel⟩, List.mem_of_getElem? (i := 727) (by decide +kernel), List.mem_of_getElem? (i := 1054) (by decide +kernel), List.mem_of_getElem? (i := 1055) (by decide +kernel)⟩
def lw_privs_4 : List (MethodName × Nat) := [(⟨"ScreenDeskModel", "sequence", "(I)V"⟩, 40), (⟨"ScreenDeskModel", "privately", "(I)V"⟩, 40), (⟨"ScreenDeskModel", "kept", "()I"⟩, 40), (⟨"ScreenDeskModel", "home", "(II)V"⟩, 40), (⟨"ScreenDeskModel", "clear", "(II)V"⟩, 40), (⟨"ScreenDeskModel", "doIt", "(II)V"⟩, 40), (⟨"ScreenDeskModel", "above", "(I)I"⟩, 40), (⟨"ScreenDeskModel", "below", "(I)I"⟩, 40), (⟨"ScreenDeskModel", "change", "(II)V"⟩, 40), (⟨"ScreenDeskModel", "set", "(II)V"⟩, 40), (⟨"ScreenDeskModel", "dip", "(I)V"⟩, 40), (⟨"ScreenDeskModel", "answer", "(I)V"⟩, 40), (⟨"ScreenDeskModel", "put", "(I)V"⟩, 40), (⟨"ScreenDeskModel", "titleByte", "(I)V"⟩, 40), (⟨"ScreenDeskModel", "isCell", "(II)Z"⟩, 40)]
theorem lw_r4 : ∀ q ∈ lw_privs_4, lw_okq q := List.forall_mem_cons.mpr ⟨lw_p48, List.forall_mem_cons.mpr ⟨lw_p49, List.forall_mem_cons.mpr ⟨lw_p50, List.forall_mem_cons.mpr ⟨lw_p51, List.forall_mem_cons.mpr ⟨lw_p52, List.forall_mem_cons.mpr ⟨lw_p53, List.forall_mem_cons.mpr ⟨lw_p54, List.forall_mem_cons.mpr ⟨lw_p55, List.forall_mem_cons.mpr ⟨lw_p56, List.forall_mem_cons.mpr ⟨lw_p57, List.forall_mem_cons.mpr ⟨lw_p58, List.forall_mem_cons.mpr ⟨lw_p59, List.forall_mem_cons.mpr ⟨lw_p60, List.forall_mem_cons.mpr ⟨lw_p61, List.forall_mem_cons.mpr ⟨lw_p62, fun _ h => absurd h List.not_mem_nil⟩⟩⟩⟩⟩⟩⟩⟩⟩⟩⟩⟩⟩⟩⟩
def lw_privs : List (MethodName × Nat) := lw_privs_1 ++ (lw_privs_2 ++ (lw_privs_3 ++ (lw_privs_4)))
def lw_tbl : List Cond := k2_sels lw_privs ++ tables_1
theorem lw_privs_ok : ∀ q ∈ lw_privs, lw_okq q := by
  show ∀ q ∈ lw_privs_1 ++ (lw_privs_2 ++ (lw_privs_3 ++ (lw_privs_4))), lw_okq q
  exact List.forall_mem_append.mpr ⟨lw_r1, List.forall_mem_append.mpr ⟨lw_r2, List.forall_mem_append.mpr ⟨lw_r3, lw_r4⟩⟩⟩
end
section
/-! ===== BEGIN words of one list among another's, by their places ===== -/
theorem goodIn_r {big : List Cond} (ws : List Cond) (ps : List Nat) (hp : ws = ps.filterMap (fun i => big[i]?)) (h : ws.all goodWord = true) : GoodIn big ws := by
  intro w hw
  have h1 := List.all_eq_true.mp h w hw
  rw [hp] at hw
  obtain ⟨i, -, hi⟩ := List.mem_filterMap.mp hw
  have hm : w ∈ big := by first | exact List.mem_of_getElem? hi | exact List.getElem?_mem hi
  exact ⟨hm, good_of_word h1⟩
theorem goodIn_app {big a b : List Cond} (ha : GoodIn big a) (hb : GoodIn big b) : GoodIn big (a ++ b) := fun w h => (List.mem_append.mp h).elim (ha w) (hb w)
theorem goodIn_ca {big a b : List Cond} {c : Cond} (ha : GoodIn big (c :: a)) (hb : GoodIn big b) : GoodIn big (c :: (a ++ b)) := fun w h => (List.mem_cons.mp h).elim (fun e => ha w (List.mem_cons.mpr (Or.inl e))) (fun h => (List.mem_append.mp h).elim (fun h => ha w (List.mem_cons.mpr (Or.inr h))) (hb w))
theorem goodIn_sub {big ws : List Cond} (hm : ∀ w ∈ ws, w ∈ big) (h : ws.all goodWord = true) : GoodIn big ws := fun w hw => ⟨hm w hw, good_of_word (List.all_eq_true.mp h w hw)⟩
/-! ===== END ===== -/

/-! ===== BEGIN exceptions that leave a method, and their catching by the caller (launches without stack traces) ===== -/
section VXA
/-! The laws vx_back, vx_callV, vx_callS, vx_callSW, vx_throw0, vx_throwS follow proofs of the library, with one case more: JvmDerived/Free/Laws.lean (Back.of_free), Shelf42/LK1.lean (callV, callS), Shelf/KitTraced.lean (throwNew0V, throwNewS). -/
/-- where a method has thrown q: the class by its name, the cell, what was written, the world -/
def vx_T (XC : String → State → State → Prop) (st : State) (q : Addr) (t : State) (mc ms : Nat) (free : Addr → Prop) : Prop :=
  ∃ (E : String) (ce : Cell) (L : List Loc), XC E st t ∧ t.heap[q]? = some ce ∧ ce.vm = .none ∧ st.vm.findClass E = some ce.cls ∧ st.WarmedH t.vm ∧ st.sameButNew ({ t with vm := st.vm } : State) L mc ms ∧ ∀ z ∈ L, free z.base
def vx_Q (Qc : Array Value → State → Outcome → State → Prop) (XC : String → State → State → Prop) (mc ms : Nat) (free : Addr → Prop) : Array Value → State → Outcome → State → Prop := fun a st o t =>
  (Qc a st o t ∧ ∃ L, FrameEnd st o t L mc ms ∧ ∀ q ∈ L, free q.base) ∨ ∃ q, o = .threw q ∧ vx_T XC st q t mc ms free
/-- a callee that returns or throws -/
def vx_Met (l : Launch) (y : MethodName) (ws : List Cond) (rm : Room) (Pc : Array Value → State → Prop) (Qc : Array Value → State → Outcome → State → Prop) (XC : String → State → State → Prop) (mc ms : Nat) (free : Addr → Prop) : Prop :=
  MetFree l y (headSpec ws rm) Pc (fun _ _ _ _ _ => True) (vx_Q Qc XC mc ms free)
def vx_Post (XC : String → State → State → Prop) (mc ms : Nat) (free : Addr → Prop) : Pt → Array Value → Addr → Pt → Prop := fun A a q B =>
  ∃ (g : JFrame) (mk : MethodId) (t : State) (L : List Loc) (E : String) (ce : Cell), B.U.heap = t.heap ∧ B.U.vm = t.vm ∧ XC E (A.U.calling g mk a) t ∧ t.heap[q]? = some ce ∧ ce.vm = .none ∧ A.U.vm.findClass E = some ce.cls ∧ B.locs = A.locs ++ L ∧ (∀ z ∈ L, free z.base) ∧ B.cells = A.cells + mc ∧ B.slots = A.slots + ms
def vx_Back (l : Launch) (R : Room) (p : Program) (e : Env) (below : List Frame) (s : State) (sargs : Array Value) (y : MethodName) (len W9 : Nat)
    (Pre : Pt → Array Value → Prop) (Post : Pt → Array Value → Option Value → Pt → Prop) (PostX : Pt → Array Value → Addr → Pt → Prop) : Prop :=
  ∀ (m : MethodId) (meth : Method) (c : Code) (A : Pt) (g : JFrame) (ig : Instr) (mk : MethodId) (a : Array Value),
    Stand p l e R s m sargs below meth c A.U A.locs A.cells A.slots → g.method = m → g.locals.size = c.maxLocals → decode c.code g.pc = .ok (ig, len) →
    2 * g.monitorRoom + (g.stack.map fun v => v.category).sum ≤ W9 → A.U.methodNamed? y = some mk → Pre A a →
    (∃ (v : Option Value) (B : Pt), Stand p l e R s m sargs below meth c B.U B.locs B.cells B.slots ∧ Post A a v B ∧
      Steps p.tables e below (doInvoke e (A.U.setTop g) [] mk a).1 (B.U.setTop { g with pc := g.pc + len, stack := v.toList ++ g.stack })) ∨
    (∃ (q : Addr) (B : Pt), Stand p l e R s m sargs below meth c B.U B.locs B.cells B.slots ∧ PostX A a q B ∧
      Steps p.tables e below (doInvoke e (A.U.setTop g) [] mk a).1 ((B.U.setTop g).pushFrame (.throwing q)))
section Payer
variable {l : Launch} {R : Room} {p : Program} {e : Env} {below : List Frame} {s : State} {sargs : Array Value} {y : MethodName} {len W9 : Nat}
theorem vx_back {ws : List Cond} {rm : Room} {Pc : Array Value → State → Prop} {Qc : Array Value → State → Outcome → State → Prop} {XC : String → State → State → Prop} {mc ms : Nat} {free : Addr → Prop} {bytes : ByteArray} {maxL : Nat} {ret : Option FieldType}
    (hM : vx_Met l y ws rm Pc Qc XC mc ms free) (hblind : FrameBlind Pc) (hrc : rm.cells = mc) (hrs : rm.slots = ms)
    (hframes : rm.frames + 1 ≤ R.frames) (hlocals : W9 + (maxL + 11) + rm.locals ≤ R.locals)
    (hws : ∀ w ∈ ws, ∀ a' U, s.WarmedH U.vm → w.before a' U = true) (hcode : Cond.code y bytes maxL ret ∈ ws) (hinit : ∀ a' U, s.WarmedH U.vm → (Cond.initialized y.cls).before a' U = true) :
    vx_Back l R p e below s sargs y len W9 (PreOf R mc ms Pc) (PostOf Qc mc ms free) (vx_Post XC mc ms free) := by
  intro m meth c A g ig mk a X hg hsize hdg hW hn hp
  have h1 : (headSpec ws rm).pre.before a A.U = true := atoms_intro fun w hw => hws w hw _ _ X.warmed
  have h2 : (Cond.code y bytes maxL ret).before a A.U = true := hws _ hcode _ _ X.warmed
  have h3 : (Cond.initialized y.cls).before a A.U = true := hinit _ _ X.warmed
  have h4 : A.cells + (headSpec ws rm).room.cells ≤ R.cells := by rw [show (headSpec ws rm).room.cells = mc from hrc]; exact hp.1
  have h5 : A.slots + (headSpec ws rm).room.slots ≤ R.slots := by rw [show (headSpec ws rm).room.slots = ms from hrs]; exact hp.2.1
  have hPc : Pc a (A.U.calling g mk a) := hblind _ _ _ _ hp.2.2
  obtain ⟨U, Ls, c0, s0⟩ := A
  dsimp only [Pt.U, Pt.locs, Pt.cells, Pt.slots] at h1 h2 h3 h4 h5 X hn hPc ⊢
  obtain ⟨methY, cY, hmY, hcY, -, hlY, -, -, -, -⟩ := Cond.code_spec hn h2
  obtain ⟨kY, hkY, -⟩ := className_of_methodNamed hn
  have hinitY : kY.init = .initialized := Cond.initialized_spec (findClass_of_methodNamed hn) hkY h3
  have h : At U g.method c below := by rw [hg]; exact X.here
  have hlocals9 : W9 + (maxL + 11) + (headSpec ws rm).room.locals ≤ R.locals := hlocals
  have happ : (headSpec ws rm).appliesLoose y e.platform (U.calling g mk a) = true :=
    Spec.appliesLoose_calling (g := g) h hdg hn hkY hinitY
      (X.room_calling (g := g) (R' := (headSpec ws rm).room) hsize hmY hcY hframes (by rw [hlY]; omega) h4 h5) h1
  obtain ⟨mid, hmid⟩ := h.above
  have hfr : (U.setTop g).frames = (.java g :: mid) ++ below := by rw [State.frames_setTop' g h.top, hmid]; rfl
  obtain ⟨o, s₂, hsteps, -, hend, hq⟩ := Steps.callFree hM p X.admits X.cas X.clock (acts := []) hfr happ hPc trivial
  have hq' : vx_Q Qc XC mc ms free a (U.calling g mk a) o s₂ := hq
  rw [State.frames_setTop' g h.top] at hend
  obtain ⟨g₀, hg0⟩ := Option.isSome_iff_exists.mp h.top
  obtain ⟨r, hr⟩ := State.topJava?_eq_some.mp hg0
  have hr' : (({ U with heap := s₂.heap, slotsUsed := s₂.slotsUsed } : State).setVm s₂.vm).frames = .java g₀ :: r := hr
  rcases hq' with ⟨hqc, L, hfe, hL⟩ | ⟨q, rfl, E, ce, L, hx, hce, hcv, hcl, hW₂, hsm, hL⟩
  · obtain ⟨⟨v, rfl⟩, hW₂, e2, q2, q3, q4, q5, q6⟩ := id hfe
    have e3 : s₂ = ({ (U.calling g mk a).setFrames s₂.frames with heap := s₂.heap, slotsUsed := s₂.slotsUsed } : State).setVm s₂.vm := by
      have : s₂ = ({ s₂ with vm := (U.calling g mk a).vm } : State).setVm s₂.vm := rfl
      rw [e2] at this
      exact this
    obtain ⟨c₂, i₂, len₂, hc₂, hd₂, hf₂⟩ := hend
    have hW' : U.WarmedH s₂.vm := hW₂
    have hcc : c₂ = c := by
      have h1 : s₂.code? g.method = U.code? g.method := by
        rw [State.code?_eq, State.code?_eq, hW'.alike.method?]
      exact Option.some.inj (hc₂.symm.trans (h1.trans h.code))
    subst hcc
    have hlen : len₂ = len := by rw [hdg] at hd₂; cases hd₂; rfl
    subst hlen
    have hs₂ : s₂ = (({ U with heap := s₂.heap, slotsUsed := s₂.slotsUsed } : State).setVm s₂.vm).setTop { g with pc := g.pc + len₂, stack := v.toList ++ g.stack } := by
      refine e3.trans ?_
      rw [hf₂, State.calling_eq h.top, State.setFrames_setFrames, State.setTop_of_frames _ hr', hr]
      rfl
    have hsame : U.sameButNew ({ U with heap := s₂.heap, slotsUsed := s₂.slotsUsed } : State) L mc ms := by
      refine ⟨?_, q2, q3, q4, q5, q6⟩
      obtain ⟨t, ht, -⟩ := State.frames_cons hr
      show ({ U with heap := s₂.heap, slotsUsed := s₂.slotsUsed } : State) = { U.setFrames U.frames with heap := s₂.heap, slotsUsed := s₂.slotsUsed }
      rw [State.setFrames_self ht]
    subst hg
    refine Or.inl ⟨v, ⟨(({ U with heap := s₂.heap, slotsUsed := s₂.slotsUsed } : State).setVm s₂.vm), Ls ++ L, c0 + mc, s0 + ms⟩,
      ⟨X.admits, X.cas, X.clock, X.frames, X.room, X.hears, X.method, X.code, (X.here.setHeapUsed s₂.heap s₂.slotsUsed).setVm hW'.alike, X.tail, State.WarmedH.trans X.warmed hW', X.limits, X.bytes, X.same.trans (hsame.setVm s.vm)⟩,
      ⟨g, mk, s₂, L, rfl, rfl, hqc, rfl, hL, rfl, rfl⟩, ?_⟩
    show Steps p.tables e below _ ((({ U with heap := s₂.heap, slotsUsed := s₂.slotsUsed } : State).setVm s₂.vm).setTop { g with pc := g.pc + len₂, stack := v.toList ++ g.stack })
    rw [← hs₂]
    exact hsteps
  · obtain ⟨e2, q2, q3, q4, q5, q6⟩ := id hsm
    have e3 : s₂ = ({ (U.calling g mk a).setFrames s₂.frames with heap := s₂.heap, slotsUsed := s₂.slotsUsed } : State).setVm s₂.vm := by
      have : s₂ = ({ s₂ with vm := (U.calling g mk a).vm } : State).setVm s₂.vm := rfl
      rw [e2] at this
      exact this
    have hf₂ : s₂.frames = .throwing q :: .java g :: U.frames.tail := hend
    have hW' : U.WarmedH s₂.vm := hW₂
    have hs₂ : s₂ = ((({ U with heap := s₂.heap, slotsUsed := s₂.slotsUsed } : State).setVm s₂.vm).setTop g).pushFrame (.throwing q) := by
      refine e3.trans ?_
      rw [hf₂, State.calling_eq h.top, State.setFrames_setFrames, State.pushFrame, State.frames_setTop _ hr', State.setTop_of_frames _ hr', State.setFrames_setFrames, hr]
      rfl
    have hsame : U.sameButNew ({ U with heap := s₂.heap, slotsUsed := s₂.slotsUsed } : State) L mc ms := by
      refine ⟨?_, q2, q3, q4, q5, q6⟩
      obtain ⟨t, ht, -⟩ := State.frames_cons hr
      show ({ U with heap := s₂.heap, slotsUsed := s₂.slotsUsed } : State) = { U.setFrames U.frames with heap := s₂.heap, slotsUsed := s₂.slotsUsed }
      rw [State.setFrames_self ht]
    subst hg
    refine Or.inr ⟨q, ⟨(({ U with heap := s₂.heap, slotsUsed := s₂.slotsUsed } : State).setVm s₂.vm), Ls ++ L, c0 + mc, s0 + ms⟩,
      ⟨X.admits, X.cas, X.clock, X.frames, X.room, X.hears, X.method, X.code, (X.here.setHeapUsed s₂.heap s₂.slotsUsed).setVm hW'.alike, X.tail, State.WarmedH.trans X.warmed hW', X.limits, X.bytes, X.same.trans (hsame.setVm s.vm)⟩,
      ⟨g, mk, s₂, L, E, ce, rfl, rfl, hx, hce, hcv, hcl, rfl, hL, rfl, rfl⟩, ?_⟩
    show Steps p.tables e below _ (((({ U with heap := s₂.heap, slotsUsed := s₂.slotsUsed } : State).setVm s₂.vm).setTop g).pushFrame (.throwing q))
    rw [← hs₂]
    exact hsteps
end Payer
section Calls
variable {p : Program} {l : Launch} {e : Env} {R : Room} {s : State} {m : MethodId} {args : Array Value} {below : List Frame} {meth : Method} {c : Code} {T : State} {locs : List Loc} {cells slots : Nat}
theorem vx_callV (X : Stand p l e R s m args below meth c T locs cells slots) (hexec : p.tables.exec = Jvm.exec) {own C : String} {index : Nat} {y : MethodName} {bytes : ByteArray} {maxL : Nat} {ret : Option FieldType}
    (hown : s.vm.findClass own = some m.cls) (hlink : (Cond.methodLink own index y).before args s = true) (hinst : (Cond.instanceMethod y).before args s = true) (hsel : (Cond.selects C y y).before args s = true)
    (hcode : (Cond.code y bytes maxL ret).before args s = true) (hy : y.cls ≠ "java/lang/invoke/MethodHandle" ∧ y.cls ≠ "java/lang/invoke/VarHandle")
    {W9 : Nat} {Pre : Pt → Array Value → Prop} {Post : Pt → Array Value → Option Value → Pt → Prop} {PostX : Pt → Array Value → Addr → Pt → Prop} (hK : vx_Back l R p e below s args y 3 W9 Pre Post PostX)
    {b : Addr} {cellB : Cell} (hcell : T.heap[b]? = some cellB) (hobj : cellB.vm.isStatics = false) (hcls : s.vm.findClass C = some cellB.cls)
    {g : JFrame} (hg : g.method = m) (hsize : g.locals.size = c.maxLocals) {argsL rest : List Value} (hlen : ∀ sig, parseMethodDescriptor y.desc = some sig → argsL.length = sig.parameters.length)
    (hstack : g.stack = argsL.reverse ++ .ref b :: rest) (hW : 2 * g.monitorRoom + (rest.map fun v => v.category).sum ≤ W9) (hdg : decode c.code g.pc = .ok (.invokevirtual index, 3))
    (hpre : ∀ vm₁, s.WarmedH vm₁ → Pre ⟨T.setVm vm₁, locs, cells, slots⟩ (Value.ref b :: argsL).toArray) :
    (∃ (v : Option Value) (vm₁ : Vm) (B : Pt), s.WarmedH vm₁ ∧ Stand p l e R s m args below meth c B.U B.locs B.cells B.slots ∧ Post ⟨T.setVm vm₁, locs, cells, slots⟩ (Value.ref b :: argsL).toArray v B ∧
      ∀ target, Steps p.tables e below (B.U.setTop { g with pc := g.pc + 3, stack := v.toList ++ rest }) target → Steps p.tables e below (T.setTop g) target) ∨
    (∃ (q : Addr) (vm₁ : Vm) (B : Pt), s.WarmedH vm₁ ∧ Stand p l e R s m args below meth c B.U B.locs B.cells B.slots ∧ PostX ⟨T.setVm vm₁, locs, cells, slots⟩ (Value.ref b :: argsL).toArray q B ∧
      Steps p.tables e below (T.setTop g) ((B.U.setTop { g with stack := rest }).pushFrame (.throwing q))) := by
  obtain ⟨mk, methM, hnamed, hmethM, hstM, habM⟩ := Cond.instanceMethod_spec hinst
  obtain ⟨methM', cM, hmethM', -, -, -, -, -, -, hsigM⟩ := Cond.code_spec hnamed hcode
  cases hmethM.symm.trans hmethM'
  obtain ⟨c2, r2, m2, q1, q2, q3, q4, kP, hkP, hkPi⟩ := Cond.selects_spec hsel
  cases hcls.symm.trans q1
  cases (State.methodFound?_of_named hnamed hy).symm.trans q2
  cases hnamed.symm.trans q3
  have hselP : selectMethod e.platform s.vm cellB.cls mk = .method mk := by rw [Launch.admits_selectMethod X.admits]; exact q4
  obtain ⟨vm₁, X₁, hstep₁⟩ := X.invokevirtual hexec hown hlink hnamed hmethM hstM hkP hkPi hy (a := b) (cell := cellB) hcell
    (fun z h => by rw [h] at hobj; cases hobj) hselP hmethM habM hkP hkPi (g := g) hg (argsL := argsL) (rest := rest) (hlen _ hsigM) hstack hdg
  rcases hK m meth c ⟨T.setVm vm₁, locs, cells, slots⟩ { g with stack := rest } (.invokevirtual index) mk (Value.ref b :: argsL).toArray X₁ hg hsize hdg hW (X₁.named hnamed) (hpre vm₁ X₁.warmed) with ⟨v, B, X', hpost, hsteps⟩ | ⟨q, B, X', hpost, hsteps⟩
  · exact Or.inl ⟨v, vm₁, B, X₁.warmed, X', hpost, fun target h => hstep₁ _ fun acts => by rw [doInvoke_state]; exact hsteps.trans h⟩
  · exact Or.inr ⟨q, vm₁, B, X₁.warmed, X', hpost, hstep₁ _ fun acts => by rw [doInvoke_state]; exact hsteps⟩
theorem vx_callS (X : Stand p l e R s m args below meth c T locs cells slots) (hexec : p.tables.exec = Jvm.exec) {own : String} {index : Nat} {y : MethodName} {bytes : ByteArray} {maxL : Nat} {ret : Option FieldType}
    (hown : s.vm.findClass own = some m.cls) (hlink : (Cond.methodLink own index y).before args s = true) (hstat : (Cond.static y).before args s = true) (hinit : (Cond.initialized y.cls).before args s = true)
    (hcode : (Cond.code y bytes maxL ret).before args s = true) (hy : y.cls ≠ "java/lang/invoke/MethodHandle" ∧ y.cls ≠ "java/lang/invoke/VarHandle")
    {W9 : Nat} {Pre : Pt → Array Value → Prop} {Post : Pt → Array Value → Option Value → Pt → Prop} {PostX : Pt → Array Value → Addr → Pt → Prop} (hK : vx_Back l R p e below s args y 3 W9 Pre Post PostX)
    {g : JFrame} (hg : g.method = m) (hsize : g.locals.size = c.maxLocals) {argsL rest : List Value} (hlen : ∀ sig, parseMethodDescriptor y.desc = some sig → argsL.length = sig.parameters.length)
    (hstack : g.stack = argsL.reverse ++ rest) (hW : 2 * g.monitorRoom + (rest.map fun v => v.category).sum ≤ W9) (hdg : decode c.code g.pc = .ok (.invokestatic index, 3))
    (hpre : ∀ vm₁, s.WarmedH vm₁ → Pre ⟨T.setVm vm₁, locs, cells, slots⟩ argsL.toArray) :
    (∃ (v : Option Value) (vm₁ : Vm) (B : Pt), s.WarmedH vm₁ ∧ Stand p l e R s m args below meth c B.U B.locs B.cells B.slots ∧ Post ⟨T.setVm vm₁, locs, cells, slots⟩ argsL.toArray v B ∧
      ∀ target, Steps p.tables e below (B.U.setTop { g with pc := g.pc + 3, stack := v.toList ++ rest }) target → Steps p.tables e below (T.setTop g) target) ∨
    (∃ (q : Addr) (vm₁ : Vm) (B : Pt), s.WarmedH vm₁ ∧ Stand p l e R s m args below meth c B.U B.locs B.cells B.slots ∧ PostX ⟨T.setVm vm₁, locs, cells, slots⟩ argsL.toArray q B ∧
      Steps p.tables e below (T.setTop g) ((B.U.setTop { g with stack := rest }).pushFrame (.throwing q))) := by
  obtain ⟨mk, hnamed⟩ := Cond.code_named hcode
  obtain ⟨methM, cM, hmethM, -, -, -, -, -, -, hsigM⟩ := Cond.code_spec hnamed hcode
  have hstatic : methM.isStatic = true := Cond.static_spec hnamed hmethM hstat
  obtain ⟨kP, hkP, -⟩ := className_of_methodNamed hnamed
  have hinitP : kP.init = .initialized := Cond.initialized_spec (findClass_of_methodNamed hnamed) hkP hinit
  obtain ⟨vm₁, X₁, hstep₁⟩ := X.invokestatic hexec hown hlink hnamed hmethM hstatic hkP hinitP hy (g := g) hg (argsL := argsL) (rest := rest) (hlen _ hsigM) hstack hdg
  rcases hK m meth c ⟨T.setVm vm₁, locs, cells, slots⟩ { g with stack := rest } (.invokestatic index) mk argsL.toArray X₁ hg hsize hdg hW (X₁.named hnamed) (hpre vm₁ X₁.warmed) with ⟨v, B, X', hpost, hsteps⟩ | ⟨q, B, X', hpost, hsteps⟩
  · exact Or.inl ⟨v, vm₁, B, X₁.warmed, X', hpost, fun target h => hstep₁ _ fun acts => by rw [doInvoke_state]; exact hsteps.trans h⟩
  · exact Or.inr ⟨q, vm₁, B, X₁.warmed, X', hpost, hstep₁ _ fun acts => by rw [doInvoke_state]; exact hsteps⟩
end Calls
theorem vx_cls {s : State} {T : State} {vm₁ : Vm} {E : String} {k : ClassId} (hW : s.WarmedH vm₁) (h : (T.setVm vm₁).vm.findClass E = some k) : s.vm.findClass E = some k := by
  have h1 : vm₁.findClass E = some k := h
  rw [hW.alike.findClass] at h1
  exact h1
/-- the method's frame g, with q thrown over it -/
def vx_W (p : Program) (l : Launch) (e : Env) (R : Room) (s : State) (m : MethodId) (args : Array Value) (below : List Frame) (meth : Method) (c : Code) (H : Heap) (locs : List Loc) (cells slots : Nat) (Q : State → Prop) (g : JFrame) (q : Addr) : Prop :=
  ∀ T : State, T.heap = H → Stand p l e R s m args below meth c T locs cells slots → ∃ t, Steps p.tables e below ((T.setTop g).pushFrame (.throwing q)) t ∧ Q t
def vx_Run (p : Program) (l : Launch) (e : Env) (R : Room) (s : State) (m : MethodId) (args : Array Value) (below : List Frame) (meth : Method) (c : Code) (H : Heap) (locs : List Loc) (cells slots mc ms : Nat) (g : JFrame) (rest : List Value) (Qa : State → Outcome → State → Prop) (XC : String → State → State → Prop) (free : Addr → Prop) : Prop :=
  ∀ T : State, T.heap = H → Stand p l e R s m args below meth c T locs cells slots →
    (∃ (v : Option Value) (st₀ t T' : State) (L : List Loc), st₀.heap = H ∧ Stand p l e R s m args below meth c T' (locs ++ L) (cells + mc) (slots + ms) ∧ (∀ q ∈ L, free q.base) ∧ T'.heap = t.heap ∧ T'.vm = t.vm ∧ Qa st₀ (.returned v) t ∧
      Goes p e below T g T' { g with pc := g.pc + 3, stack := v.toList ++ rest }) ∨
    (∃ (q : Addr) (st₀ t T' : State) (L : List Loc) (E : String) (ce : Cell), st₀.heap = H ∧ Stand p l e R s m args below meth c T' (locs ++ L) (cells + mc) (slots + ms) ∧ (∀ z ∈ L, free z.base) ∧ T'.heap = t.heap ∧ T'.vm = t.vm ∧ XC E st₀ t ∧ t.heap[q]? = some ce ∧ ce.vm = .none ∧ s.vm.findClass E = some ce.cls ∧
      Steps p.tables e below (T.setTop g) ((T'.setTop { g with stack := rest }).pushFrame (.throwing q)))
def vx_X {S : Type} (px : S → Prop) (B : String → S → State → Prop) (A : Nat → Prop) : String → State → State → Prop := fun E st t => ∃ u : S, px u ∧ B E u t ∧ va_F A st t
section Runs
variable {p : Program} {l : Launch} {e : Env} {R : Room} {s : State} {m : MethodId} {args : Array Value} {below : List Frame} {meth : Method} {c : Code} {H : Heap} {locs : List Loc} {cells slots : Nat}
variable {y : MethodName} {bytes cc : ByteArray} {maxL nL mc ms n index : Nat} {ret : Option FieldType} {ws : List Cond} {rm : Room} {Pc : Array Value → State → Prop} {Qc : Array Value → State → Outcome → State → Prop} {XC : String → State → State → Prop} {free : Addr → Prop} {Ts : List Cond} {own C : String} {b : Addr} {As rest : List Value} {g : JFrame}
theorem vx_callBack (cb : CallB R s args own index y bytes maxL ret ws rm mc ms n) (hM : vx_Met l y ws rm Pc Qc XC mc ms free) (hbl : FrameBlind Pc) : vx_Back l R p e below s args y 3 8 (PreOf R mc ms Pc) (PostOf Qc mc ms free) (vx_Post XC mc ms free) := by
  obtain ⟨hrc, hrs, hfr, hlo, hws, hcw, -, hini, -⟩ := cb
  exact vx_back (bytes := bytes) (maxL := maxL) (ret := ret) hM hbl hrc hrs hfr hlo hws hcw (fun a' U hW => word_at hW (Or.inl (by first | rfl | simp [Cond.onTables, Cond.keeps, Cond.steady])) hini)
theorem vx_runV (S : CallFix p m c cc nL s args Ts own) (hM : vx_Met l y ws rm Pc Qc XC mc ms free) (cw : CallW R s args own C index y bytes maxL ret ws rm mc ms n) (hp : PreV s H C b Pc As)
    (hg : g.method = m) (hn : As.length = n) (hsize : g.locals.size = nL) (hstack : g.stack = As.reverse ++ .ref b :: rest) (hW : 2 * g.monitorRoom + (rest.map fun v => v.category).sum ≤ 8) (hdg : decode cc g.pc = .ok (.invokevirtual index, 3)) (hf : cells + mc ≤ R.cells ∧ slots + ms ≤ R.slots) :
    vx_Run p l e R s m args below meth c H locs cells slots mc ms g rest (Qc (Value.ref b :: As).toArray) XC free := by
  have hK : vx_Back l R p e below s args y 3 8 (PreOf R mc ms Pc) (PostOf Qc mc ms free) (vx_Post XC mc ms free) := vx_callBack cw.1 hM hp.1
  obtain ⟨⟨-, -, -, -, -, -, hcode, -, hy, hlen, hl⟩, hin, hse⟩ := cw
  obtain ⟨hx, hb, hml, ho, -⟩ := S
  obtain ⟨-, ⟨cellB, hcB, hoB, hclB⟩, hPc⟩ := hp
  intro T hT X
  rcases vx_callV X hx (C := C) (bytes := bytes) (maxL := maxL) (ret := ret) ho hl hin hse hcode hy hK (by rw [hT]; exact hcB) hoB hclB hg (hsize.trans hml.symm) (argsL := As) (rest := rest) (fun sig h => hn.trans (hlen sig h)) hstack hW (by rw [hb]; exact hdg)
    (fun vm₁ hW₁ => ⟨hf.1, hf.2, hPc (T.setVm vm₁) hT hW₁⟩) with ⟨v, vm₁, ⟨U', l2, c2, s2⟩, hW₁, X', ⟨g', mk, t, L, e1, e2, hq, h1, hL, h2, h3⟩, st⟩ | ⟨q, vm₁, ⟨U', l2, c2, s2⟩, hW₁, X', ⟨g', mk, t, L, E, ce, e1, e2, hq, hce, hcv, hcl, h1, hL, h2, h3⟩, st⟩
  · dsimp only [Pt.U, Pt.locs, Pt.cells, Pt.slots] at X' e1 e2 h1 h2 h3 st
    subst h1; subst h2; subst h3
    exact Or.inl ⟨v, (T.setVm vm₁).calling g' mk (Value.ref b :: As).toArray, t, U', L, hT, X', hL, e1, e2, hq, st⟩
  · dsimp only [Pt.U, Pt.locs, Pt.cells, Pt.slots] at X' e1 e2 h1 h2 h3 st hcl
    subst h1; subst h2; subst h3
    exact Or.inr ⟨q, (T.setVm vm₁).calling g' mk (Value.ref b :: As).toArray, t, U', L, E, ce, hT, X', hL, e1, e2, hq, hce, hcv, vx_cls hW₁ hcl, st⟩
theorem vx_runS (S : CallFix p m c cc nL s args Ts own) (hM : vx_Met l y ws rm Pc Qc XC mc ms free) (cw : CallB R s args own index y bytes maxL ret ws rm mc ms n ∧ (Cond.static y).before args s = true) (hp : PreS s H Pc As)
    (hg : g.method = m) (hn : As.length = n) (hsize : g.locals.size = nL) (hstack : g.stack = As.reverse ++ rest) (hW : 2 * g.monitorRoom + (rest.map fun v => v.category).sum ≤ 8) (hdg : decode cc g.pc = .ok (.invokestatic index, 3)) (hf : cells + mc ≤ R.cells ∧ slots + ms ≤ R.slots) :
    vx_Run p l e R s m args below meth c H locs cells slots mc ms g rest (Qc As.toArray) XC free := by
  have hK : vx_Back l R p e below s args y 3 8 (PreOf R mc ms Pc) (PostOf Qc mc ms free) (vx_Post XC mc ms free) := vx_callBack cw.1 hM hp.1
  obtain ⟨⟨-, -, -, -, -, -, hcode, hini, hy, hlen, hl⟩, hstt⟩ := cw
  obtain ⟨hx, hb, hml, ho, -⟩ := S
  intro T hT X
  rcases vx_callS X hx (bytes := bytes) (maxL := maxL) (ret := ret) ho hl hstt hini hcode hy hK hg (hsize.trans hml.symm) (argsL := As) (rest := rest) (fun sig h => hn.trans (hlen sig h)) hstack hW (by rw [hb]; exact hdg)
    (fun vm₁ hW₁ => ⟨hf.1, hf.2, hp.2 (T.setVm vm₁) hT hW₁⟩) with ⟨v, vm₁, ⟨U', l2, c2, s2⟩, hW₁, X', ⟨g', mk, t, L, e1, e2, hq, h1, hL, h2, h3⟩, st⟩ | ⟨q, vm₁, ⟨U', l2, c2, s2⟩, hW₁, X', ⟨g', mk, t, L, E, ce, e1, e2, hq, hce, hcv, hcl, h1, hL, h2, h3⟩, st⟩
  · dsimp only [Pt.U, Pt.locs, Pt.cells, Pt.slots] at X' e1 e2 h1 h2 h3 st
    subst h1; subst h2; subst h3
    exact Or.inl ⟨v, (T.setVm vm₁).calling g' mk As.toArray, t, U', L, hT, X', hL, e1, e2, hq, st⟩
  · dsimp only [Pt.U, Pt.locs, Pt.cells, Pt.slots] at X' e1 e2 h1 h2 h3 st hcl
    subst h1; subst h2; subst h3
    exact Or.inr ⟨q, (T.setVm vm₁).calling g' mk As.toArray, t, U', L, E, ce, hT, X', hL, e1, e2, hq, hce, hcv, vx_cls hW₁ hcl, st⟩
end Runs
section Rows
variable {p : Program} {l : Launch} {e : Env} {R : Room} {s : State} {m : MethodId} {args : Array Value} {below : List Frame} {meth : Method} {c : Code} {H : Heap} {locs : List Loc} {cells slots : Nat} {Q : State → Prop}
variable {mc ms : Nat} {free : Addr → Prop} {A0 A1 : Nat → Prop} {H0 : Heap} {a : Array Value} {pc : Nat} {ls : Array Slot} {st0 rest : List Value}
theorem vx_keep {st₀ t T' : State} {L : List Loc} (h0 : st₀.heap = H) (e1 : T'.heap = t.heap) (hS : va_S A0 H0 H locs) (hA : ∀ q, q < H.size → A1 q → A0 q) (hf : ∀ q, free q → A0 q) (hL : ∀ q ∈ L, free q.base) (hF : va_F A1 st₀ t) :
    H.size ≤ T'.heap.size ∧ (∀ q : Nat, q < H.size → ¬ A1 q → T'.heap[q]? = H[q]?) ∧ va_S A0 H0 T'.heap (locs ++ L) := by
  obtain ⟨hz, hk⟩ := hF
  rw [h0] at hz hk
  exact ⟨by rw [e1]; exact hz, fun q h1 h2 => by rw [e1]; exact hk q h1 h2,
    ⟨Nat.le_trans hS.1 (by rw [e1]; exact hz), fun q h1 h2 => by rw [e1, hk q (Nat.lt_of_lt_of_le h1 hS.1) (fun z => h2 (hA q (Nat.lt_of_lt_of_le h1 hS.1) z))]; exact hS.2.1 q h1 h2, fun q hq => by
      rcases List.mem_append.mp hq with h | h
      · exact hS.2.2 q h
      · exact hf _ (hL q h)⟩⟩
theorem vx_calli {S SX : Type} {post : Int32 → S → Prop} {px : SX → Prop} {B : S → State → Prop} {BX : String → SX → State → Prop} {AX : Nat → Prop} (hr : vx_Run p l e R s m args below meth c H locs cells slots mc ms (F0 m pc ls st0) rest (va_Qi post B A1 a) (vx_X px BX AX) free) (hS : va_S A0 H0 H locs) (hA : ∀ q, q < H.size → A1 q → A0 q) (hf : ∀ q, free q → A0 q) (hAX : ∀ q, q < H.size → AX q → A0 q)
    (kx : ∀ (E : String) (ce : Cell) (q9 : Addr) (u : SX) (t : State) (H1 : Heap) (locs1 : List Loc), t.heap = H1 → s.vm.Alike t.vm → px u → BX E u t → H.size ≤ H1.size → (∀ q : Nat, q < H.size → ¬ AX q → H1[q]? = H[q]?) → va_S A0 H0 H1 locs1 → H1[q9]? = some ce → ce.vm = .none → s.vm.findClass E = some ce.cls → vx_W p l e R s m args below meth c H1 locs1 (cells + mc) (slots + ms) Q (F0 m pc ls rest) q9)
    (kk : ∀ (r : Int32) (u : S) (t : State) (H1 : Heap) (locs1 : List Loc), t.heap = H1 → s.vm.Alike t.vm → post r u → B u t → H.size ≤ H1.size → (∀ q : Nat, q < H.size → ¬ A1 q → H1[q]? = H[q]?) → va_S A0 H0 H1 locs1 → W p l e R s m args below meth c H1 locs1 (cells + mc) (slots + ms) Q (F0 m (pc + 3) ls (.int r :: rest))) : W p l e R s m args below meth c H locs cells slots Q (F0 m pc ls st0) := by
  intro T hT X
  rcases hr T hT X with ⟨v, st₀, t, T', L, h0, X', hL, e1, e2, ⟨⟨r, u, hv, hp, hb⟩, hF⟩, st⟩ | ⟨q, st₀, t, T', L, E, ce, h0, X', hL, e1, e2, ⟨u, hp, hb, hF⟩, hce, hcv, hcl, st⟩
  · cases hv
    obtain ⟨k1, k2, k3⟩ := vx_keep h0 e1 hS hA hf hL hF
    obtain ⟨t2, a1, b1⟩ := kk r u t T'.heap (locs ++ L) e1.symm (by rw [← e2]; exact X'.warmed.alike) hp hb k1 k2 k3 T' rfl X'
    exact ⟨t2, st t2 a1, b1⟩
  · obtain ⟨k1, k2, k3⟩ := vx_keep h0 e1 hS hAX hf hL hF
    obtain ⟨t2, a1, b1⟩ := kx E ce q u t T'.heap (locs ++ L) e1.symm (by rw [← e2]; exact X'.warmed.alike) hp hb k1 k2 k3 (by rw [e1]; exact hce) hcv hcl T' rfl X'
    exact ⟨t2, st.trans a1, b1⟩
theorem vx_calll {S SX : Type} {post : Int64 → S → Prop} {px : SX → Prop} {B : S → State → Prop} {BX : String → SX → State → Prop} {AX : Nat → Prop} (hr : vx_Run p l e R s m args below meth c H locs cells slots mc ms (F0 m pc ls st0) rest (va_Ql post B A1 a) (vx_X px BX AX) free) (hS : va_S A0 H0 H locs) (hA : ∀ q, q < H.size → A1 q → A0 q) (hf : ∀ q, free q → A0 q) (hAX : ∀ q, q < H.size → AX q → A0 q)
    (kx : ∀ (E : String) (ce : Cell) (q9 : Addr) (u : SX) (t : State) (H1 : Heap) (locs1 : List Loc), t.heap = H1 → s.vm.Alike t.vm → px u → BX E u t → H.size ≤ H1.size → (∀ q : Nat, q < H.size → ¬ AX q → H1[q]? = H[q]?) → va_S A0 H0 H1 locs1 → H1[q9]? = some ce → ce.vm = .none → s.vm.findClass E = some ce.cls → vx_W p l e R s m args below meth c H1 locs1 (cells + mc) (slots + ms) Q (F0 m pc ls rest) q9)
    (kk : ∀ (r : Int64) (u : S) (t : State) (H1 : Heap) (locs1 : List Loc), t.heap = H1 → s.vm.Alike t.vm → post r u → B u t → H.size ≤ H1.size → (∀ q : Nat, q < H.size → ¬ A1 q → H1[q]? = H[q]?) → va_S A0 H0 H1 locs1 → W p l e R s m args below meth c H1 locs1 (cells + mc) (slots + ms) Q (F0 m (pc + 3) ls (.long r :: rest))) : W p l e R s m args below meth c H locs cells slots Q (F0 m pc ls st0) := by
  intro T hT X
  rcases hr T hT X with ⟨v, st₀, t, T', L, h0, X', hL, e1, e2, ⟨⟨r, u, hv, hp, hb⟩, hF⟩, st⟩ | ⟨q, st₀, t, T', L, E, ce, h0, X', hL, e1, e2, ⟨u, hp, hb, hF⟩, hce, hcv, hcl, st⟩
  · cases hv
    obtain ⟨k1, k2, k3⟩ := vx_keep h0 e1 hS hA hf hL hF
    obtain ⟨t2, a1, b1⟩ := kk r u t T'.heap (locs ++ L) e1.symm (by rw [← e2]; exact X'.warmed.alike) hp hb k1 k2 k3 T' rfl X'
    exact ⟨t2, st t2 a1, b1⟩
  · obtain ⟨k1, k2, k3⟩ := vx_keep h0 e1 hS hAX hf hL hF
    obtain ⟨t2, a1, b1⟩ := kx E ce q u t T'.heap (locs ++ L) e1.symm (by rw [← e2]; exact X'.warmed.alike) hp hb k1 k2 k3 (by rw [e1]; exact hce) hcv hcl T' rfl X'
    exact ⟨t2, st.trans a1, b1⟩
theorem vx_callf {S SX : Type} {post : UInt32 → S → Prop} {px : SX → Prop} {B : S → State → Prop} {BX : String → SX → State → Prop} {AX : Nat → Prop} (hr : vx_Run p l e R s m args below meth c H locs cells slots mc ms (F0 m pc ls st0) rest (va_Qf post B A1 a) (vx_X px BX AX) free) (hS : va_S A0 H0 H locs) (hA : ∀ q, q < H.size → A1 q → A0 q) (hf : ∀ q, free q → A0 q) (hAX : ∀ q, q < H.size → AX q → A0 q)
    (kx : ∀ (E : String) (ce : Cell) (q9 : Addr) (u : SX) (t : State) (H1 : Heap) (locs1 : List Loc), t.heap = H1 → s.vm.Alike t.vm → px u → BX E u t → H.size ≤ H1.size → (∀ q : Nat, q < H.size → ¬ AX q → H1[q]? = H[q]?) → va_S A0 H0 H1 locs1 → H1[q9]? = some ce → ce.vm = .none → s.vm.findClass E = some ce.cls → vx_W p l e R s m args below meth c H1 locs1 (cells + mc) (slots + ms) Q (F0 m pc ls rest) q9)
    (kk : ∀ (r : UInt32) (u : S) (t : State) (H1 : Heap) (locs1 : List Loc), t.heap = H1 → s.vm.Alike t.vm → post r u → B u t → H.size ≤ H1.size → (∀ q : Nat, q < H.size → ¬ A1 q → H1[q]? = H[q]?) → va_S A0 H0 H1 locs1 → W p l e R s m args below meth c H1 locs1 (cells + mc) (slots + ms) Q (F0 m (pc + 3) ls (.float r :: rest))) : W p l e R s m args below meth c H locs cells slots Q (F0 m pc ls st0) := by
  intro T hT X
  rcases hr T hT X with ⟨v, st₀, t, T', L, h0, X', hL, e1, e2, ⟨⟨r, u, hv, hp, hb⟩, hF⟩, st⟩ | ⟨q, st₀, t, T', L, E, ce, h0, X', hL, e1, e2, ⟨u, hp, hb, hF⟩, hce, hcv, hcl, st⟩
  · cases hv
    obtain ⟨k1, k2, k3⟩ := vx_keep h0 e1 hS hA hf hL hF
    obtain ⟨t2, a1, b1⟩ := kk r u t T'.heap (locs ++ L) e1.symm (by rw [← e2]; exact X'.warmed.alike) hp hb k1 k2 k3 T' rfl X'
    exact ⟨t2, st t2 a1, b1⟩
  · obtain ⟨k1, k2, k3⟩ := vx_keep h0 e1 hS hAX hf hL hF
    obtain ⟨t2, a1, b1⟩ := kx E ce q u t T'.heap (locs ++ L) e1.symm (by rw [← e2]; exact X'.warmed.alike) hp hb k1 k2 k3 (by rw [e1]; exact hce) hcv hcl T' rfl X'
    exact ⟨t2, st.trans a1, b1⟩
theorem vx_calld {S SX : Type} {post : UInt64 → S → Prop} {px : SX → Prop} {B : S → State → Prop} {BX : String → SX → State → Prop} {AX : Nat → Prop} (hr : vx_Run p l e R s m args below meth c H locs cells slots mc ms (F0 m pc ls st0) rest (va_Qd post B A1 a) (vx_X px BX AX) free) (hS : va_S A0 H0 H locs) (hA : ∀ q, q < H.size → A1 q → A0 q) (hf : ∀ q, free q → A0 q) (hAX : ∀ q, q < H.size → AX q → A0 q)
    (kx : ∀ (E : String) (ce : Cell) (q9 : Addr) (u : SX) (t : State) (H1 : Heap) (locs1 : List Loc), t.heap = H1 → s.vm.Alike t.vm → px u → BX E u t → H.size ≤ H1.size → (∀ q : Nat, q < H.size → ¬ AX q → H1[q]? = H[q]?) → va_S A0 H0 H1 locs1 → H1[q9]? = some ce → ce.vm = .none → s.vm.findClass E = some ce.cls → vx_W p l e R s m args below meth c H1 locs1 (cells + mc) (slots + ms) Q (F0 m pc ls rest) q9)
    (kk : ∀ (r : UInt64) (u : S) (t : State) (H1 : Heap) (locs1 : List Loc), t.heap = H1 → s.vm.Alike t.vm → post r u → B u t → H.size ≤ H1.size → (∀ q : Nat, q < H.size → ¬ A1 q → H1[q]? = H[q]?) → va_S A0 H0 H1 locs1 → W p l e R s m args below meth c H1 locs1 (cells + mc) (slots + ms) Q (F0 m (pc + 3) ls (.double r :: rest))) : W p l e R s m args below meth c H locs cells slots Q (F0 m pc ls st0) := by
  intro T hT X
  rcases hr T hT X with ⟨v, st₀, t, T', L, h0, X', hL, e1, e2, ⟨⟨r, u, hv, hp, hb⟩, hF⟩, st⟩ | ⟨q, st₀, t, T', L, E, ce, h0, X', hL, e1, e2, ⟨u, hp, hb, hF⟩, hce, hcv, hcl, st⟩
  · cases hv
    obtain ⟨k1, k2, k3⟩ := vx_keep h0 e1 hS hA hf hL hF
    obtain ⟨t2, a1, b1⟩ := kk r u t T'.heap (locs ++ L) e1.symm (by rw [← e2]; exact X'.warmed.alike) hp hb k1 k2 k3 T' rfl X'
    exact ⟨t2, st t2 a1, b1⟩
  · obtain ⟨k1, k2, k3⟩ := vx_keep h0 e1 hS hAX hf hL hF
    obtain ⟨t2, a1, b1⟩ := kx E ce q u t T'.heap (locs ++ L) e1.symm (by rw [← e2]; exact X'.warmed.alike) hp hb k1 k2 k3 (by rw [e1]; exact hce) hcv hcl T' rfl X'
    exact ⟨t2, st.trans a1, b1⟩
theorem vx_callv {S SX : Type} {post : S → Prop} {px : SX → Prop} {B : S → State → Prop} {BX : String → SX → State → Prop} {AX : Nat → Prop} (hr : vx_Run p l e R s m args below meth c H locs cells slots mc ms (F0 m pc ls st0) rest (va_Qv post B A1 a) (vx_X px BX AX) free) (hS : va_S A0 H0 H locs) (hA : ∀ q, q < H.size → A1 q → A0 q) (hf : ∀ q, free q → A0 q) (hAX : ∀ q, q < H.size → AX q → A0 q)
    (kx : ∀ (E : String) (ce : Cell) (q9 : Addr) (u : SX) (t : State) (H1 : Heap) (locs1 : List Loc), t.heap = H1 → s.vm.Alike t.vm → px u → BX E u t → H.size ≤ H1.size → (∀ q : Nat, q < H.size → ¬ AX q → H1[q]? = H[q]?) → va_S A0 H0 H1 locs1 → H1[q9]? = some ce → ce.vm = .none → s.vm.findClass E = some ce.cls → vx_W p l e R s m args below meth c H1 locs1 (cells + mc) (slots + ms) Q (F0 m pc ls rest) q9)
    (kk : ∀ (u : S) (t : State) (H1 : Heap) (locs1 : List Loc), t.heap = H1 → s.vm.Alike t.vm → post u → B u t → H.size ≤ H1.size → (∀ q : Nat, q < H.size → ¬ A1 q → H1[q]? = H[q]?) → va_S A0 H0 H1 locs1 → W p l e R s m args below meth c H1 locs1 (cells + mc) (slots + ms) Q (F0 m (pc + 3) ls (rest))) : W p l e R s m args below meth c H locs cells slots Q (F0 m pc ls st0) := by
  intro T hT X
  rcases hr T hT X with ⟨v, st₀, t, T', L, h0, X', hL, e1, e2, ⟨⟨u, hv, hp, hb⟩, hF⟩, st⟩ | ⟨q, st₀, t, T', L, E, ce, h0, X', hL, e1, e2, ⟨u, hp, hb, hF⟩, hce, hcv, hcl, st⟩
  · cases hv
    obtain ⟨k1, k2, k3⟩ := vx_keep h0 e1 hS hA hf hL hF
    obtain ⟨t2, a1, b1⟩ := kk u t T'.heap (locs ++ L) e1.symm (by rw [← e2]; exact X'.warmed.alike) hp hb k1 k2 k3 T' rfl X'
    exact ⟨t2, st t2 a1, b1⟩
  · obtain ⟨k1, k2, k3⟩ := vx_keep h0 e1 hS hAX hf hL hF
    obtain ⟨t2, a1, b1⟩ := kx E ce q u t T'.heap (locs ++ L) e1.symm (by rw [← e2]; exact X'.warmed.alike) hp hb k1 k2 k3 (by rw [e1]; exact hce) hcv hcl T' rfl X'
    exact ⟨t2, st.trans a1, b1⟩
end Rows
section Ends
variable {p : Program} {l : Launch} {e : Env} {R : Room} {s : State} {m : MethodId} {args : Array Value} {below : List Frame} {meth : Method} {c : Code} {H : Heap} {locs : List Loc} {cells slots : Nat} {Q : State → Prop}
variable {mc ms : Nat} {free : Addr → Prop} {A0 A1 : Nat → Prop} {H0 : Heap} {a : Array Value} {ls : Array Slot} {st0 rest : List Value}
variable {Qc : Array Value → State → Outcome → State → Prop} {XC : String → State → State → Prop}
/-- what a body that may throw owes at its end -/
def vx_MQ (below : List Frame) (Qc : Array Value → State → Outcome → State → Prop) (XC : String → State → State → Prop) (a : Array Value) (s : State) (mc ms : Nat) (free : Addr → Prop) : State → Prop := fun t =>
  ∃ o, t.status = .running ∧ Ended t below o ∧ vx_Q Qc XC mc ms free a s o t
theorem vx_ret {g : JFrame} {mc ms : Nat} (k : W p l e R s m args below meth c H locs cells slots (MQ below Qc args s mc ms free) g) : W p l e R s m args below meth c H locs cells slots (vx_MQ below Qc XC args s mc ms free) g := by
  intro T hT X
  obtain ⟨t, a1, o, b1, b2, b3, b4⟩ := k T hT X
  exact ⟨t, a1, o, b1, b2, Or.inl ⟨b3, b4⟩⟩
/-- not caught here: it goes on to the caller -/
theorem vx_widen {g : JFrame} {q : Addr} {k n : Nat} (h1 : cells ≤ k) (h2 : slots ≤ n) (kk : vx_W p l e R s m args below meth c H locs k n Q g q) : vx_W p l e R s m args below meth c H locs cells slots Q g q := fun T hT X => kk T hT (stand_widen X h1 h2)
theorem vx_out {pc : Nat} {E : String} {ce : Cell} {q : Addr} {mc ms : Nat} (hout : ∀ x ∈ c.exceptionTable.toList, covers x pc = false) (hlocks : meth.locks = false) (hcell : H[q]? = some ce) (hv : ce.vm = .none) (hcl : s.vm.findClass E = some ce.cls)
    (hx : ∀ t : State, t.heap = H → s.vm.Alike t.vm → XC E s t) (hf : ∀ z ∈ locs, free z.base) (hc : cells ≤ mc) (hs : slots ≤ ms) :
    vx_W p l e R s m args below meth c H locs cells slots (vx_MQ below Qc XC args s mc ms free) (F0 m pc ls rest) q := by
  intro T hT X
  obtain ⟨st1, hrun, hend, hW, hsm⟩ := X.leaveThrown q (g := F0 m pc ls rest) rfl rfl rfl hout hlocks
  have hcell9 : (T.setFrames (.throwing q :: below)).heap[q]? = some ce := by
    show T.heap[q]? = some ce
    rw [hT]; exact hcell
  exact ⟨_, st1, .threw q, hrun, hend, Or.inr ⟨q, rfl, E, ce, locs, hx _ hT hW.alike, hcell9, hv, hcl, hW, hsm.mono hc hs, hf⟩⟩
theorem vx_frame {U : State} {k n : Nat} (h : s.sameButNew ({ U with vm := s.vm } : State) locs k n) : s.heap.size ≤ U.heap.size ∧ ∀ q : Nat, q < s.heap.size → (∀ z ∈ locs, z.base ≠ q) → U.heap[q]? = s.heap[q]? := by
  obtain ⟨-, h2, -, -, -, h6⟩ := h
  refine ⟨h2, fun q hq hz => ?_⟩
  obtain ⟨c9, e1, e2, e3, e4⟩ := h6 q _ (Array.getElem?_eq_getElem hq)
  have hs : c9.slots = (s.heap[q]).slots := Array.ext_getElem? fun i => e4 i fun hm => hz _ hm rfl
  have h9 : c9 = s.heap[q] := by
    rw [hs] at e2
    exact e2
  have e5 : U.heap[q]? = some c9 := e1
  rw [e5, h9, Array.getElem?_eq_getElem hq]
/-- the words of a throw but the four that speak of the heap -/
def vx_no (w : Cond) : Bool := decide (w ≠ .isRef (.static Bundle.tN "UNASSIGNED_STACK" Bundle.steD)) && decide (w ≠ .isRef (.static Bundle.tN "SUPPRESSED_SENTINEL" Bundle.listD)) && decide (w ≠ .laysStatic Bundle.tN "UNASSIGNED_STACK" Bundle.steD) && decide (w ≠ .laysStatic Bundle.tN "SUPPRESSED_SENTINEL" Bundle.listD)
def vx_at0 (own : String) (ic : Nat) (X : String) (names : List String) : List Cond := (Bundle.ownAtoms0 own ic X names).filter vx_no
def vx_atS (own : String) (ic : Nat) (X : String) (names : List String) : List Cond := (Bundle.ownAtoms own ic X names).filter vx_no
/-- a word that the tables alone decide, or a good one -/
def vx_ot (w : Cond) : Bool := w.onTables || goodWord w
theorem vx_ot_at {args a' : Array Value} {s U : State} {w : Cond} (hW : s.WarmedH U.vm) (hvm : s.vm = U.vm) (hg : vx_ot w = true) (h : w.before args s = true) : w.before a' U = true := by
  simp only [vx_ot, Bool.or_eq_true] at hg
  rcases hg with hg | hg
  · exact va_tabs hg hvm h
  · exact word_at hW (good_of_word hg) h
/-- a list's words: the good ones out of the method's own list, the others by premises of their own -/
theorem vx_hat {args : Array Value} {s : State} {L B : List Cond} (h1 : ∀ w ∈ L.filter goodWord, w.before args s = true) (h2 : ∀ w ∈ L.filter (fun w => !goodWord w), w ∈ B) (h3 : ∀ w ∈ B, w.before args s = true) : ∀ w ∈ L, w.before args s = true := by
  intro w hw
  by_cases g : goodWord w = true
  · exact h1 w (List.mem_filter.mpr ⟨hw, g⟩)
  · refine h3 w (h2 w (List.mem_filter.mpr ⟨hw, ?_⟩))
    show (!goodWord w) = true
    cases hgw : goodWord w
    · rfl
    · exact absurd hgw g
theorem vx_c {args : Array Value} {s : State} {w : Cond} {B : List Cond} (h : w.before args s = true) (t : ∀ w ∈ B, w.before args s = true) : ∀ w' ∈ w :: B, w'.before args s = true := fun w' h' => (List.mem_cons.mp h').elim (fun e => by rw [e]; exact h) (t w')
theorem vx_n {args : Array Value} {s : State} : ∀ w ∈ ([] : List Cond), w.before args s = true := fun _ h => nomatch h
theorem vx_own {args : Array Value} {s : State} {L : List Cond} (h1 : ∀ w ∈ L.filter vx_no, w.before args s = true)
    (hU : (Cond.isRef (.static Bundle.tN "UNASSIGNED_STACK" Bundle.steD)).before args s = true) (hN : (Cond.isRef (.static Bundle.tN "SUPPRESSED_SENTINEL" Bundle.listD)).before args s = true)
    (lU : (Cond.laysStatic Bundle.tN "UNASSIGNED_STACK" Bundle.steD).before args s = true) (lN : (Cond.laysStatic Bundle.tN "SUPPRESSED_SENTINEL" Bundle.listD).before args s = true) : ∀ w ∈ L, w.before args s = true := by
  intro w hw
  by_cases e1 : w = .isRef (.static Bundle.tN "UNASSIGNED_STACK" Bundle.steD)
  · rw [e1]; exact hU
  · by_cases e2 : w = .isRef (.static Bundle.tN "SUPPRESSED_SENTINEL" Bundle.listD)
    · rw [e2]; exact hN
    · by_cases e3 : w = .laysStatic Bundle.tN "UNASSIGNED_STACK" Bundle.steD
      · rw [e3]; exact lU
      · by_cases e4 : w = .laysStatic Bundle.tN "SUPPRESSED_SENTINEL" Bundle.listD
        · rw [e4]; exact lN
        · exact h1 w (List.mem_filter.mpr ⟨hw, by unfold vx_no; rw [decide_eq_true e1, decide_eq_true e2, decide_eq_true e3, decide_eq_true e4]; rfl⟩)
/-- where a static field lies, its class's statics cell in H -/
def vx_L (C n d : String) (A : Nat → Prop) (U : State) (H : Heap) : Prop := ∃ (c : ClassId) (k : Class) (i : Nat) (f : Field) (a : Nat) (cell : Cell), U.vm.findClass C = some c ∧ U.fieldFound? C n d = some (c, k, i, f) ∧ f.isStatic = true ∧ k.statics = some a ∧ H[a]? = some cell ∧ cell.vm.isStatics = true ∧ cell.cls = c ∧ f.slot < cell.slots.size ∧ k.staticTypes[f.slot]? = some f.type ∧ ¬ A a
theorem vx_L.moved {C n d : String} {A : Nat → Prop} {u U : State} {H : Heap} (hvm : u.vm.Alike U.vm) (h : vx_L C n d A u H) : vx_L C n d A U H := by
  obtain ⟨c, k, i, f, a, cell, h1, h2, h3, h4, h5, h6, h7, h8, h9, h10⟩ := h
  obtain ⟨k', hi', he⟩ := State.fieldFound?_setVm hvm h2
  exact ⟨c, k', i, f, a, cell, by rw [hvm.findClass]; exact h1, hi', h3, by rw [he]; exact h4, h5, h6, h7, h8, by rw [he]; exact h9, h10⟩
theorem vx_L.kept {C n d : String} {A : Nat → Prop} {U : State} {H H1 : Heap} (h : vx_L C n d A U H) (hq : ∀ a : Nat, a < H.size → ¬ A a → H1[a]? = H[a]?) : vx_L C n d A U H1 := by
  obtain ⟨c, k, i, f, a, cell, h1, h2, h3, h4, h5, h6, h7, h8, h9, h10⟩ := h
  exact ⟨c, k, i, f, a, cell, h1, h2, h3, h4, by rw [hq a (Array.getElem?_eq_some_iff.mp h5).1 h10]; exact h5, h6, h7, h8, h9, h10⟩
theorem vx_L.narrow {C n d : String} {A B : Nat → Prop} {U : State} {H : Heap} (h : vx_L C n d A U H) (hAB : ∀ q, B q → A q) : vx_L C n d B U H := by
  obtain ⟨c, k, i, f, a, cell, h1, h2, h3, h4, h5, h6, h7, h8, h9, h10⟩ := h
  exact ⟨c, k, i, f, a, cell, h1, h2, h3, h4, h5, h6, h7, h8, h9, fun z => h10 (hAB _ z)⟩
theorem vx_L.word {C n d : String} {A : Nat → Prop} {s : State} {args : Array Value} (h : vx_L C n d A s s.heap) : (Cond.laysStatic C n d).before args s = true := by
  obtain ⟨c, k, i, f, a, cell, h1, h2, h3, h4, h5, h6, h7, h8, h9, -⟩ := h
  show (Cond.laysStatic C n d).holds args s none s [] = true
  exact Cond.laysStatic_of h1 h2 h3 h4 h5 h6 h7 h8 h9
/-- .. and what it holds: null or some reference -/
def vx_Zq (C n d : String) (A : Nat → Prop) (U : State) (H : Heap) : Prop := va_Zq C n d A U H ∧ vx_L C n d A U H
theorem vx_Zq.moved {C n d : String} {A : Nat → Prop} {u U : State} {H : Heap} (hvm : u.vm.Alike U.vm) (h : vx_Zq C n d A u H) : vx_Zq C n d A U H := ⟨va_Zq.moved hvm h.1, vx_L.moved hvm h.2⟩
theorem vx_Zq.kept {C n d : String} {A : Nat → Prop} {U : State} {H H1 : Heap} (h : vx_Zq C n d A U H) (hq : ∀ a : Nat, a < H.size → ¬ A a → H1[a]? = H[a]?) : vx_Zq C n d A U H1 := ⟨va_Zq.kept h.1 hq, vx_L.kept h.2 hq⟩
theorem vx_Zq.narrow {C n d : String} {A B : Nat → Prop} {U : State} {H : Heap} (h : vx_Zq C n d A U H) (hAB : ∀ q, B q → A q) : vx_Zq C n d B U H := ⟨va_Zq.narrow h.1 hAB, vx_L.narrow h.2 hAB⟩
theorem vx_Zqof {args : Array Value} {s : State} {C n d : String} {A : Nat → Prop} (hl : (Cond.laysStatic C n d).before args s = true) (hini : (Cond.initialized C).before args s = true) (h : (Cond.isRef (.static C n d)).before args s = true) (hA : ∀ a : Nat, a < s.heap.size → ¬ A a) : vx_Zq C n d A s s.heap := by
  refine ⟨va_Zqof hl hini h hA, ?_⟩
  obtain ⟨c, k, i, f, a, cell, h1, h2, h3, h4, h5, h6, h7, h8, h9⟩ := Cond.laysStatic_spec hl
  exact ⟨c, k, i, f, a, cell, h1, h2, h3, h4, h5, h6, h7, h8, h9, hA a (Array.getElem?_eq_some_iff.mp h5).1⟩
theorem vx_isRef {C n d : String} {v : Value} {A : Nat → Prop} {s : State} {args : Array Value} (h : va_Z C n d v A s s.heap) (hv : v.isRef = true) : (Cond.isRef (.static C n d)).before args s = true := by
  obtain ⟨cf, kf, fi, f, a, cell, h1, h2, h3, h4, h5, h6, h7, -⟩ := h
  have he : (Term.static C n d).eval args s none [] s = some v := by
    simp [Term.eval, State.fieldNamed?, h1, h2, h4, h5, h6, h7]
  simp only [Cond.before, Cond.holds, Cond.value, he]
  cases v <;> simp_all [Value.isRef]
theorem vx_isRefq {C n d : String} {A : Nat → Prop} {s : State} {args : Array Value} (h : va_Zq C n d A s s.heap) : (Cond.isRef (.static C n d)).before args s = true := by
  rcases h with h | ⟨t, h⟩
  · exact vx_isRef h rfl
  · exact vx_isRef h rfl
/-- the same frame, seen from here: as if the method were called anew in this heap -/
theorem vx_rebase {T : State} (X : Stand p l e R s m args below meth c T locs cells slots) {R' : Room} (hf : R'.frames ≤ R.frames) (hl : R'.locals ≤ R.locals) (hc : cells + R'.cells ≤ R.cells) (hs : slots + R'.slots ≤ R.slots) :
    Stand p l e R' ((T.setVm s.vm).setFrames (.invoking m args :: below)) m args below meth c T [] 0 0 := by
  have htop : (T.setVm s.vm).topJava?.isSome := X.here.top
  have hF : ((T.setVm s.vm).setFrames (.invoking m args :: below)).frames = .invoking m args :: below := State.frames_setFrames _ (State.cur_lt_of_top htop)
  obtain ⟨g₀, hg0⟩ := Option.isSome_iff_exists.mp htop
  obtain ⟨r, hr⟩ := State.topJava?_eq_some.mp hg0
  have hl9 : e.platform.stackLimits (T.setVm s.vm).me = e.platform.stackLimits s.me := X.limits
  have hb9 : (T.setVm s.vm).me.stackBytes = s.me.stackBytes := X.bytes
  refine ⟨X.admits, X.cas, X.clock, hF, ?_, X.hears, X.method, X.code, X.here, X.tail, X.warmed, ?_, ?_, ?_⟩
  · have h := X.room
    have hU : ((T.setVm s.vm).setFrames (.invoking m args :: below)).localsInUse = s.localsInUse := by
      rw [State.localsInUse_invoking hF (meth := meth) (c := c) X.method X.code, State.localsInUse_invoking X.frames X.method X.code]
    simp only [State.hasRoom, Bool.and_eq_true, decide_eq_true_eq] at h ⊢
    obtain ⟨⟨⟨⟨h1, h2, h3, h4, h5, h6⟩, h7⟩, h8⟩, h9⟩ := h
    rw [X.frames, List.length_cons] at h2 h3
    have q1 := X.heapSize
    have q2 := X.used
    simp only [hF, hU, List.length_cons, State.stackLimits_setFrames, State.stackBytes_setFrames, hl9, hb9]
    refine ⟨⟨⟨⟨by omega, by omega, by omega, by omega, by omega, h6⟩, ?_⟩, ?_⟩, X.book⟩
    · show T.heap.size + R'.cells ≤ e.platform.maxCells
      omega
    · show T.slotsUsed + R'.slots ≤ e.platform.maxSlots
      omega
  · rw [State.stackLimits_setFrames]; rfl
  · rw [State.stackBytes_setFrames]; rfl
  · refine ⟨?_, Nat.le_refl _, Nat.le_refl _, ?_, ?_, fun a c9 h9 => ⟨c9, h9, rfl, rfl, fun _ _ => rfl⟩⟩
    · obtain ⟨t, ht, -⟩ := State.frames_cons hr
      show T.setVm s.vm = { ((T.setVm s.vm).setFrames (.invoking m args :: below)).setFrames (T.setVm s.vm).frames with heap := T.heap, slotsUsed := T.slotsUsed }
      rw [State.setFrames_setFrames, State.setFrames_self ht]
      rfl
    · show T.slotsUsed = T.slotsUsed + ((T.heap.toList.drop T.heap.size).map (·.slots.size)).sum
      rw [List.drop_eq_nil_of_le (Nat.le_of_eq Array.length_toList)]
      rfl
    · show ((T.heap.toList.drop T.heap.size).map (·.slots.size)).sum ≤ 0
      rw [List.drop_eq_nil_of_le (Nat.le_of_eq Array.length_toList)]
      exact Nat.le_refl _
/-- 'throw new E()': new; dup; invokespecial; athrow -/
theorem vx_throw0 {cc : ByteArray} {pc : Nat} (hexec : p.tables.exec = Jvm.exec) (hb : c.code = cc) (hl : l.stackTraces = false) {own cls : String} {names : List String} {ik ic mc ms : Nat} {A : Nat → Prop}
    (hown : s.vm.findClass own = some m.cls) (hcls : Bundle.fit cls = true) (hnames : ∀ n ∈ names, Bundle.fit n = true)
    (hk : (Cond.classLink own ik cls).before args s = true) (hini : (Cond.initialized cls).before args s = true) (hat : ∀ w ∈ vx_at0 own ic cls names, w.before args s = true)
    (hgood : ∀ w ∈ Cond.classLink own ik cls :: Cond.initialized cls :: vx_at0 own ic cls names, vx_ot w = true)
    (hU : vx_Zq Bundle.tN "UNASSIGNED_STACK" Bundle.steD A s s.heap) (hN : vx_Zq Bundle.tN "SUPPRESSED_SENTINEL" Bundle.listD A s s.heap) (hS : va_S A s.heap H locs) (hsize : ls.size = c.maxLocals)
    (d0 : decode cc pc = .ok (.new ik, 3)) (d3 : decode cc (pc + 3) = .ok (.dup, 1)) (d4 : decode cc (pc + 4) = .ok (.invokespecial ic, 3)) (d7 : decode cc (pc + 7) = .ok (.athrow, 1))
    (hout : ∀ x ∈ c.exceptionTable.toList, covers x (pc + 7) = false)
    (hRframes : names.length + 3 < R.frames) (hRlocals : (rest.map fun v => v.category).sum + (13 * (names.length + 1) + 42) ≤ R.locals) (hRcells : cells + 1 ≤ R.cells) (hRslots : slots + 6 ≤ R.slots) (hlocks : meth.locks = false)
    (hx : ∀ t : State, s.vm.Alike t.vm → H.size ≤ t.heap.size → (∀ q : Nat, q < H.size → t.heap[q]? = H[q]?) → XC cls s t)
    (hf : ∀ z ∈ locs, free z.base) (hc : cells + 1 ≤ mc) (hs : slots + 6 ≤ ms) :
    W p l e R s m args below meth c H locs cells slots (vx_MQ below Qc XC args s mc ms free) (F0 m pc ls rest) := by
  intro T hT X
  have htr : e.platform.stackTraces = false := (show e.platform.stackTraces = l.stackTraces by rw [X.admits.platform]).trans hl
  have Y := vx_rebase X (R' := { frames := R.frames, locals := R.locals, cells := 1, slots := 6 }) (Nat.le_refl _) (Nat.le_refl _) hRcells hRslots
  obtain ⟨s', hA⟩ : ∃ z, z = (T.setVm s.vm).setFrames (.invoking m args :: below) := ⟨_, rfl⟩
  rw [← hA] at Y
  have hvm : s'.vm = s.vm := by rw [hA]; rfl
  have hhp : s'.heap = H := by rw [hA]; exact hT
  have hW0 : s.WarmedH s'.vm := by rw [hvm]; exact State.WarmedH.refl s
  have hat' : ∀ w ∈ vx_at0 own ic cls names, w.before args s' = true := fun w hw => vx_ot_at hW0 hvm.symm (hgood w (List.mem_cons_of_mem _ (List.mem_cons_of_mem _ hw))) (hat w hw)
  have hk' : (Cond.classLink own ik cls).before args s' = true := vx_ot_at hW0 hvm.symm (hgood _ List.mem_cons_self) hk
  have hini' : (Cond.initialized cls).before args s' = true := vx_ot_at hW0 hvm.symm (hgood _ (List.mem_cons_of_mem _ List.mem_cons_self)) hini
  have hU' : vx_Zq Bundle.tN "UNASSIGNED_STACK" Bundle.steD A s' s'.heap := by rw [hhp]; exact vx_Zq.moved hW0.alike (hU.kept hS.2.1)
  have hN' : vx_Zq Bundle.tN "SUPPRESSED_SENTINEL" Bundle.listD A s' s'.heap := by rw [hhp]; exact vx_Zq.moved hW0.alike (hN.kept hS.2.1)
  have h : ∀ w ∈ Bundle.ownAtoms0 own ic cls names, w.before args s' = true := vx_own hat' (vx_isRefq hU'.1) (vx_isRefq hN'.1) hU'.2.word hN'.2.word
  have hown' : s'.vm.findClass own = some m.cls := by rw [hvm]; exact hown
  have hins : (Cond.instantiable cls 6).before args s' = true := h _ (by simp [Bundle.ownAtoms0])
  obtain ⟨vm₁, cX, kX, hfX, hkX, -, -, X₁, st1⟩ := Y.newCold hexec (own := own) (C := cls) (index := ik) (n := 6) hown' hk' hins hini'
    (g := F0 m pc ls rest) rfl (by rw [hb]; exact d0) (Nat.le_refl _) (Nat.le_refl _)
  generalize hT1 : (T.setVm vm₁).pushCell { cls := cX, slots := kX.instanceTypes.map defaultValue, vm := .none } = T1 at X₁ st1
  have hcat : (Value.ref T.heap.size).category = 1 := rfl
  have hcellA : T1.heap[T.heap.size]? = some (freshCell cX kX) := by rw [← hT1]; exact State.heap_pushCell_size _ _
  have d3' : decode c.code (pc + 3) = .ok (.dup, 1) := by rw [hb]; exact d3
  obtain ⟨U, hsteps, hrun, hend, hW, hsame, ce, hce, hO⟩ := X₁.ctorThrow0 hexec htr (own := own) (cls := cls) (names := names) (ic := ic) hown' hcls hnames h (fun x hx => nomatch hx) hfX hkX hcellA (by rw [hhp, hT]; exact Nat.le_refl _)
    (g := { method := m, pc := pc + 4, locals := ls, stack := .ref T.heap.size :: .ref T.heap.size :: rest, locked := none }) rfl hsize rfl rfl (rest := rest) rfl
    (by rw [hb]; exact d4) (by rw [hb]; exact d7) hout hRframes (by simp only [List.map_cons, List.sum_cons, hcat]; omega) hlocks
  obtain ⟨f1, f2⟩ := vx_frame hsame
  rw [hhp] at f1 f2
  have hWs : s.WarmedH U.vm := State.WarmedH.trans hW0 hW
  have hcl : s.vm.findClass cls = some ce.cls := by
    have h9 := hO.cls
    rw [hvm] at h9
    exact h9
  have hall : s.sameButNew ({ U with vm := s.vm } : State) locs mc ms := by
    subst hA
    obtain ⟨e1, e2⟩ := hsame
    rw [State.setFrames_setFrames] at e1
    have h2 : (T.setVm s.vm).sameButNew ({ U with vm := s.vm } : State) [] (0 + 1) (0 + 6) := ⟨e1, e2⟩
    have h3 := X.same.trans h2
    rw [List.append_nil] at h3
    exact h3.mono hc hs
  refine ⟨U, ?_, .threw T.heap.size, hrun, hend, Or.inr ⟨T.heap.size, rfl, cls, ce, locs, hx U hWs.alike f1 (fun q hq => f2 q hq (fun z hz => nomatch hz)), hce, hO.vm, hcl, hWs, hall, hf⟩⟩
  refine st1 _ ?_
  show Steps p.tables e below (T1.setTop { method := m, pc := pc + 3, locals := ls, stack := .ref T.heap.size :: rest, locked := none }) _
  jvm_step X₁.here [X₁.here.top, hexec, d3', Value.category]
  exact hsteps
/-- 'throw new E("text")': new; dup; ldc; invokespecial; athrow -/
theorem vx_throwS {cc : ByteArray} {pc : Nat} (hexec : p.tables.exec = Jvm.exec) (hb : c.code = cc) (hl : l.stackTraces = false) {own cls text : String} {names : List String} {ik is ic mc ms sa : Nat} {A : Nat → Prop}
    (hown : s.vm.findClass own = some m.cls) (hcls : Bundle.fit cls = true) (hnames : ∀ n ∈ names, Bundle.fit n = true)
    (hk : (Cond.classLink own ik cls).before args s = true) (hini : (Cond.initialized cls).before args s = true) (hstr : vk_R own is text sa s) (hat : ∀ w ∈ vx_atS own ic cls names, w.before args s = true)
    (hgood : ∀ w ∈ Cond.classLink own ik cls :: Cond.initialized cls :: vx_atS own ic cls names, vx_ot w = true)
    (hU : vx_Zq Bundle.tN "UNASSIGNED_STACK" Bundle.steD A s s.heap) (hN : vx_Zq Bundle.tN "SUPPRESSED_SENTINEL" Bundle.listD A s s.heap) (hS : va_S A s.heap H locs) (hsize : ls.size = c.maxLocals)
    (d0 : decode cc pc = .ok (.new ik, 3)) (d3 : decode cc (pc + 3) = .ok (.dup, 1)) (d4 : decode cc (pc + 4) = .ok (.ldc is, 2)) (d6 : decode cc (pc + 6) = .ok (.invokespecial ic, 3)) (d9 : decode cc (pc + 9) = .ok (.athrow, 1))
    (hout : ∀ x ∈ c.exceptionTable.toList, covers x (pc + 9) = false)
    (hRframes : names.length + 3 < R.frames) (hRlocals : (rest.map fun v => v.category).sum + (13 * (names.length + 1) + 43) ≤ R.locals) (hRcells : cells + 1 ≤ R.cells) (hRslots : slots + 6 ≤ R.slots) (hlocks : meth.locks = false)
    (hx : ∀ t : State, s.vm.Alike t.vm → H.size ≤ t.heap.size → (∀ q : Nat, q < H.size → t.heap[q]? = H[q]?) → XC cls s t)
    (hf : ∀ z ∈ locs, free z.base) (hc : cells + 1 ≤ mc) (hs : slots + 6 ≤ ms) :
    W p l e R s m args below meth c H locs cells slots (vx_MQ below Qc XC args s mc ms free) (F0 m pc ls rest) := by
  intro T hT X
  have htr : e.platform.stackTraces = false := (show e.platform.stackTraces = l.stackTraces by rw [X.admits.platform]).trans hl
  have Y := vx_rebase X (R' := { frames := R.frames, locals := R.locals, cells := 1, slots := 6 }) (Nat.le_refl _) (Nat.le_refl _) hRcells hRslots
  obtain ⟨s', hA⟩ : ∃ z, z = (T.setVm s.vm).setFrames (.invoking m args :: below) := ⟨_, rfl⟩
  rw [← hA] at Y
  have hvm : s'.vm = s.vm := by rw [hA]; rfl
  have hhp : s'.heap = H := by rw [hA]; exact hT
  have hW0 : s.WarmedH s'.vm := by rw [hvm]; exact State.WarmedH.refl s
  have hat' : ∀ w ∈ vx_atS own ic cls names, w.before args s' = true := fun w hw => vx_ot_at hW0 hvm.symm (hgood w (List.mem_cons_of_mem _ (List.mem_cons_of_mem _ hw))) (hat w hw)
  have hk' : (Cond.classLink own ik cls).before args s' = true := vx_ot_at hW0 hvm.symm (hgood _ List.mem_cons_self) hk
  have hini' : (Cond.initialized cls).before args s' = true := vx_ot_at hW0 hvm.symm (hgood _ (List.mem_cons_of_mem _ List.mem_cons_self)) hini
  have hU' : vx_Zq Bundle.tN "UNASSIGNED_STACK" Bundle.steD A s' s'.heap := by rw [hhp]; exact vx_Zq.moved hW0.alike (hU.kept hS.2.1)
  have hN' : vx_Zq Bundle.tN "SUPPRESSED_SENTINEL" Bundle.listD A s' s'.heap := by rw [hhp]; exact vx_Zq.moved hW0.alike (hN.kept hS.2.1)
  have h : ∀ w ∈ Bundle.ownAtoms own ic cls names, w.before args s' = true := vx_own hat' (vx_isRefq hU'.1) (vx_isRefq hN'.1) hU'.2.word hN'.2.word
  have hown' : s'.vm.findClass own = some m.cls := by rw [hvm]; exact hown
  have hins : (Cond.instantiable cls 6).before args s' = true := h _ (by simp [Bundle.ownAtoms])
  obtain ⟨vm₁, cX, kX, hfX, hkX, -, -, X₁, st1⟩ := Y.newCold hexec (own := own) (C := cls) (index := ik) (n := 6) hown' hk' hins hini'
    (g := F0 m pc ls rest) rfl (by rw [hb]; exact d0) (Nat.le_refl _) (Nat.le_refl _)
  generalize hT1 : (T.setVm vm₁).pushCell { cls := cX, slots := kX.instanceTypes.map defaultValue, vm := .none } = T1 at X₁ st1
  have hcat : (Value.ref T.heap.size).category = 1 := rfl
  have hcellA : T1.heap[T.heap.size]? = some (freshCell cX kX) := by rw [← hT1]; exact State.heap_pushCell_size _ _
  have d3' : decode c.code (pc + 3) = .ok (.dup, 1) := by rw [hb]; exact d3
  have d4' : decode c.code (pc + 4) = .ok (.ldc is, 2) := by rw [hb]; exact d4
  have hstr' : vk_R own is text sa s' := vk_R.warm hW0 hstr
  obtain ⟨U, hsteps, hrun, hend, hW, hsame, ce, hce, hO⟩ := X₁.ctorThrowS hexec htr (own := own) (cls := cls) (names := names) (ic := ic) hown' hcls hnames h (fun x hx => nomatch hx) hfX hkX hcellA (by rw [hhp, hT]; exact Nat.le_refl _) (msg := .ref sa) rfl
    (g := { method := m, pc := pc + 6, locals := ls, stack := .ref sa :: .ref T.heap.size :: .ref T.heap.size :: rest, locked := none }) rfl hsize rfl rfl (rest := rest) rfl
    (by rw [hb]; exact d6) (by rw [hb]; exact d9) hout hRframes (by simp only [List.map_cons, List.sum_cons, hcat]; omega) hlocks
  obtain ⟨f1, f2⟩ := vx_frame hsame
  rw [hhp] at f1 f2
  have hWs : s.WarmedH U.vm := State.WarmedH.trans hW0 hW
  have hcl : s.vm.findClass cls = some ce.cls := by
    have h9 := hO.cls
    rw [hvm] at h9
    exact h9
  have hall : s.sameButNew ({ U with vm := s.vm } : State) locs mc ms := by
    subst hA
    obtain ⟨e1, e2⟩ := hsame
    rw [State.setFrames_setFrames] at e1
    have h2 : (T.setVm s.vm).sameButNew ({ U with vm := s.vm } : State) [] (0 + 1) (0 + 6) := ⟨e1, e2⟩
    have h3 := X.same.trans h2
    rw [List.append_nil] at h3
    exact h3.mono hc hs
  refine ⟨U, ?_, .threw T.heap.size, hrun, hend, Or.inr ⟨T.heap.size, rfl, cls, ce, locs, hx U hWs.alike f1 (fun q hq => f2 q hq (fun z hz => nomatch hz)), hce, hO.vm, hcl, hWs, hall, hf⟩⟩
  refine st1 _ ?_
  show Steps p.tables e below (T1.setTop { method := m, pc := pc + 3, locals := ls, stack := .ref T.heap.size :: rest, locked := none }) _
  jvm_step X₁.here [X₁.here.top, hexec, d3', Value.category]
  exact X₁.ldcString hexec (own := own) (text := text) (index := is) (a := sa) hown' hstr'.1 hstr'.2
    (g := { method := m, pc := pc + 4, locals := ls, stack := .ref T.heap.size :: .ref T.heap.size :: rest, locked := none }) rfl d4' _ hsteps
/-- 'throw new E("text")', the text by a wide index -/
theorem vx_throwSW {cc : ByteArray} {pc : Nat} (hexec : p.tables.exec = Jvm.exec) (hb : c.code = cc) (hl : l.stackTraces = false) {own cls text : String} {names : List String} {ik is ic mc ms sa : Nat} {A : Nat → Prop}
    (hown : s.vm.findClass own = some m.cls) (hcls : Bundle.fit cls = true) (hnames : ∀ n ∈ names, Bundle.fit n = true)
    (hk : (Cond.classLink own ik cls).before args s = true) (hini : (Cond.initialized cls).before args s = true) (hstr : vk_R own is text sa s) (hat : ∀ w ∈ vx_atS own ic cls names, w.before args s = true)
    (hgood : ∀ w ∈ Cond.classLink own ik cls :: Cond.initialized cls :: vx_atS own ic cls names, vx_ot w = true)
    (hU : vx_Zq Bundle.tN "UNASSIGNED_STACK" Bundle.steD A s s.heap) (hN : vx_Zq Bundle.tN "SUPPRESSED_SENTINEL" Bundle.listD A s s.heap) (hS : va_S A s.heap H locs) (hsize : ls.size = c.maxLocals)
    (d0 : decode cc pc = .ok (.new ik, 3)) (d3 : decode cc (pc + 3) = .ok (.dup, 1)) (d4 : decode cc (pc + 4) = .ok (.ldc_w is, 3)) (d7 : decode cc (pc + 7) = .ok (.invokespecial ic, 3)) (d10 : decode cc (pc + 10) = .ok (.athrow, 1))
    (hout : ∀ x ∈ c.exceptionTable.toList, covers x (pc + 10) = false)
    (hRframes : names.length + 3 < R.frames) (hRlocals : (rest.map fun v => v.category).sum + (13 * (names.length + 1) + 43) ≤ R.locals) (hRcells : cells + 1 ≤ R.cells) (hRslots : slots + 6 ≤ R.slots) (hlocks : meth.locks = false)
    (hx : ∀ t : State, s.vm.Alike t.vm → H.size ≤ t.heap.size → (∀ q : Nat, q < H.size → t.heap[q]? = H[q]?) → XC cls s t)
    (hf : ∀ z ∈ locs, free z.base) (hc : cells + 1 ≤ mc) (hs : slots + 6 ≤ ms) :
    W p l e R s m args below meth c H locs cells slots (vx_MQ below Qc XC args s mc ms free) (F0 m pc ls rest) := by
  intro T hT X
  have htr : e.platform.stackTraces = false := (show e.platform.stackTraces = l.stackTraces by rw [X.admits.platform]).trans hl
  have Y := vx_rebase X (R' := { frames := R.frames, locals := R.locals, cells := 1, slots := 6 }) (Nat.le_refl _) (Nat.le_refl _) hRcells hRslots
  obtain ⟨s', hA⟩ : ∃ z, z = (T.setVm s.vm).setFrames (.invoking m args :: below) := ⟨_, rfl⟩
  rw [← hA] at Y
  have hvm : s'.vm = s.vm := by rw [hA]; rfl
  have hhp : s'.heap = H := by rw [hA]; exact hT
  have hW0 : s.WarmedH s'.vm := by rw [hvm]; exact State.WarmedH.refl s
  have hat' : ∀ w ∈ vx_atS own ic cls names, w.before args s' = true := fun w hw => vx_ot_at hW0 hvm.symm (hgood w (List.mem_cons_of_mem _ (List.mem_cons_of_mem _ hw))) (hat w hw)
  have hk' : (Cond.classLink own ik cls).before args s' = true := vx_ot_at hW0 hvm.symm (hgood _ List.mem_cons_self) hk
  have hini' : (Cond.initialized cls).before args s' = true := vx_ot_at hW0 hvm.symm (hgood _ (List.mem_cons_of_mem _ List.mem_cons_self)) hini
  have hU' : vx_Zq Bundle.tN "UNASSIGNED_STACK" Bundle.steD A s' s'.heap := by rw [hhp]; exact vx_Zq.moved hW0.alike (hU.kept hS.2.1)
  have hN' : vx_Zq Bundle.tN "SUPPRESSED_SENTINEL" Bundle.listD A s' s'.heap := by rw [hhp]; exact vx_Zq.moved hW0.alike (hN.kept hS.2.1)
  have h : ∀ w ∈ Bundle.ownAtoms own ic cls names, w.before args s' = true := vx_own hat' (vx_isRefq hU'.1) (vx_isRefq hN'.1) hU'.2.word hN'.2.word
  have hown' : s'.vm.findClass own = some m.cls := by rw [hvm]; exact hown
  have hins : (Cond.instantiable cls 6).before args s' = true := h _ (by simp [Bundle.ownAtoms])
  obtain ⟨vm₁, cX, kX, hfX, hkX, -, -, X₁, st1⟩ := Y.newCold hexec (own := own) (C := cls) (index := ik) (n := 6) hown' hk' hins hini'
    (g := F0 m pc ls rest) rfl (by rw [hb]; exact d0) (Nat.le_refl _) (Nat.le_refl _)
  generalize hT1 : (T.setVm vm₁).pushCell { cls := cX, slots := kX.instanceTypes.map defaultValue, vm := .none } = T1 at X₁ st1
  have hcat : (Value.ref T.heap.size).category = 1 := rfl
  have hcellA : T1.heap[T.heap.size]? = some (freshCell cX kX) := by rw [← hT1]; exact State.heap_pushCell_size _ _
  have d3' : decode c.code (pc + 3) = .ok (.dup, 1) := by rw [hb]; exact d3
  have d4' : decode c.code (pc + 4) = .ok (.ldc_w is, 3) := by rw [hb]; exact d4
  have hstr' : vk_R own is text sa s' := vk_R.warm hW0 hstr
  obtain ⟨U, hsteps, hrun, hend, hW, hsame, ce, hce, hO⟩ := X₁.ctorThrowS hexec htr (own := own) (cls := cls) (names := names) (ic := ic) hown' hcls hnames h (fun x hx => nomatch hx) hfX hkX hcellA (by rw [hhp, hT]; exact Nat.le_refl _) (msg := .ref sa) rfl
    (g := { method := m, pc := pc + 7, locals := ls, stack := .ref sa :: .ref T.heap.size :: .ref T.heap.size :: rest, locked := none }) rfl hsize rfl rfl (rest := rest) rfl
    (by rw [hb]; exact d7) (by rw [hb]; exact d10) hout hRframes (by simp only [List.map_cons, List.sum_cons, hcat]; omega) hlocks
  obtain ⟨f1, f2⟩ := vx_frame hsame
  rw [hhp] at f1 f2
  have hWs : s.WarmedH U.vm := State.WarmedH.trans hW0 hW
  have hcl : s.vm.findClass cls = some ce.cls := by
    have h9 := hO.cls
    rw [hvm] at h9
    exact h9
  have hall : s.sameButNew ({ U with vm := s.vm } : State) locs mc ms := by
    subst hA
    obtain ⟨e1, e2⟩ := hsame
    rw [State.setFrames_setFrames] at e1
    have h2 : (T.setVm s.vm).sameButNew ({ U with vm := s.vm } : State) [] (0 + 1) (0 + 6) := ⟨e1, e2⟩
    have h3 := X.same.trans h2
    rw [List.append_nil] at h3
    exact h3.mono hc hs
  refine ⟨U, ?_, .threw T.heap.size, hrun, hend, Or.inr ⟨T.heap.size, rfl, cls, ce, locs, hx U hWs.alike f1 (fun q hq => f2 q hq (fun z hz => nomatch hz)), hce, hO.vm, hcl, hWs, hall, hf⟩⟩
  refine st1 _ ?_
  show Steps p.tables e below (T1.setTop { method := m, pc := pc + 3, locals := ls, stack := .ref T.heap.size :: rest, locked := none }) _
  jvm_step X₁.here [X₁.here.top, hexec, d3', Value.category]
  exact X₁.ldcStringW hexec (own := own) (text := text) (index := is) (a := sa) hown' hstr'.1 hstr'.2
    (g := { method := m, pc := pc + 4, locals := ls, stack := .ref T.heap.size :: .ref T.heap.size :: rest, locked := none }) rfl d4' _ hsteps
end Ends
section Bodies
variable {l : Launch}
theorem vx_ofW {y : MethodName} {ws ws' : List Cond} {rm : Room} {Pc : Array Value → State → Prop} {Qc : Array Value → State → Outcome → State → Prop} {XC : String → State → State → Prop} {mc ms : Nat} {free : Addr → Prop} {cc : ByteArray} {maxL : Nat} {ret : Option FieldType}
    (hy : plainName y.cls = true) (hw : ws = Cond.code y cc maxL ret :: ws')
    (body : ∀ p e s m args below meth c s₁, BodyLoose p l y (headSpec ws rm) cc maxL ret e s m args below meth c s₁ → c.maxLocals = maxL → (∀ x ∈ c.exceptionTable.toList, False) → Pc args s →
      W p l e (headSpec ws rm).room s m args below meth c s.heap [] 0 0 (vx_MQ below Qc XC args s mc ms free) (entryFrame m args maxL)) : vx_Met l y ws rm Pc Qc XC mc ms free := by
  refine MetFree.of_bodyS (code := cc) (maxLocals := maxL) (ret := ret) hy ?_ ?_
  · intro args s m h hn
    obtain ⟨meth, c, h1, h2, h3, h4, h5, h6, -, -⟩ := Cond.code_spec hn (atoms_spec (ws := ws) h _ (by rw [hw]; exact List.mem_cons_self))
    exact ⟨meth, c, h1, h2, h3, h4, h5, h6⟩
  · intro p e s m args below meth c s₁ B hml hP _
    have hh0 : s₁.heap = s.heap := by rw [B.state]; rfl
    have ht : ∀ x ∈ c.exceptionTable.toList, False := by
      obtain ⟨meth9, c9, h1, h2, -, -, -, -, h7, -⟩ := Cond.code_spec B.named (atoms_spec (ws := ws) B.pre _ (by rw [hw]; exact List.mem_cons_self))
      cases Option.some.inj (h1.symm.trans B.method)
      cases Option.some.inj (h2.symm.trans (Stand.of_body B).code)
      intro x hx
      rw [Array.isEmpty_iff.mp h7] at hx
      cases hx
    obtain ⟨t, a1, o, b1, b2, b3⟩ := body p e s m args below meth c s₁ B hml ht hP s₁ hh0 (Stand.of_body B)
    exact ⟨t, o, a1, b1, b2, b3⟩
/-- the table of a body with handlers -/
theorem vx_table {p : Program} {x y : MethodName} {S : Spec} {cc bytes : ByteArray} {maxL maxL' : Nat} {ret ret' : Option FieldType} {e : Env} {s s₁ : State} {m : MethodId} {args : Array Value} {below : List Frame} {meth : Method} {c : Code} {hh : List (Nat × Nat × Nat × Nat)}
    (B : BodyLoose p l y S cc maxL ret e s m args below meth c s₁) (h : (Cond.codeWith y bytes maxL' ret' hh).before args s = true) : c.exceptionTable.toList = tableOf hh := by
  obtain ⟨m9, meth9, c9, hn9, h1, h2, -, -, h6, -⟩ := Cond.codeWith_spec h
  cases Option.some.inj (hn9.symm.trans B.named)
  cases Option.some.inj (h1.symm.trans B.method)
  cases Option.some.inj (h2.symm.trans (Stand.of_body B).code)
  rw [← h6, table_eq]
end Bodies
end VXA
/-! ===== END ===== -/
/-! ===== BEGIN a static call of a method with an exception table ===== -/
section VXS
variable {p : Program} {l : Launch} {e : Env} {R : Room} {s : State} {m : MethodId} {args : Array Value} {below : List Frame} {meth : Method} {c : Code} {T : State} {H : Heap} {locs : List Loc} {cells slots : Nat}
abbrev vx_CSW (R : Room) (s : State) (args : Array Value) (own : String) (index : Nat) (y : MethodName) (bytes : ByteArray) (maxL : Nat) (ret : Option FieldType) (hh : List (Nat × Nat × Nat × Nat)) (ws : List Cond) (rm : Room) (mc ms n : Nat) : Prop :=
  (rm.cells = mc ∧ rm.slots = ms ∧ rm.frames + 1 ≤ R.frames ∧ 8 + (maxL + 11) + rm.locals ≤ R.locals ∧ (∀ w ∈ ws, ∀ (a' : Array Value) (U : State), s.WarmedH U.vm → w.before a' U = true) ∧ Cond.codeWith y bytes maxL ret hh ∈ ws) ∧
  (Cond.codeWith y bytes maxL ret hh).before args s = true ∧ (Cond.initialized y.cls).before args s = true ∧ (y.cls ≠ "java/lang/invoke/MethodHandle" ∧ y.cls ≠ "java/lang/invoke/VarHandle") ∧
  (∀ sig, parseMethodDescriptor y.desc = some sig → n = sig.parameters.length) ∧ (Cond.methodLink own index y).before args s = true ∧ (Cond.static y).before args s = true
theorem vx_cwSW {own : String} {index maxL mc ms : Nat} {y : MethodName} {bytes : ByteArray} {ret : Option FieldType} {hh : List (Nat × Nat × Nat × Nat)} {Ts ws ws' : List Cond} {rm : Room} (n : Nat) (ht : ∀ w ∈ Ts, w.before args s = true) (hT : GoodIn Ts (va_wsS own index y ws)) (hw : ws = Cond.codeWith y bytes maxL ret hh :: ws') (hrc : rm.cells = mc) (hrs : rm.slots = ms)
    (hd : y.cls ≠ "java/lang/invoke/MethodHandle" ∧ y.cls ≠ "java/lang/invoke/VarHandle" ∧ (parseMethodDescriptor y.desc).map (fun d => d.parameters.length) = some n) (hR : rm.frames + 1 ≤ R.frames ∧ 8 + (maxL + 11) + rm.locals ≤ R.locals) :
    vx_CSW R s args own index y bytes maxL ret hh ws rm mc ms n := by
  have ok : ∀ w ∈ va_wsS own index y ws, w.before args s = true := fun w h => ht w (hT w h).1
  have hG : GoodIn Ts ws := fun w h => hT w (by unfold va_wsS; exact List.mem_append_right _ h)
  have hc : Cond.codeWith y bytes maxL ret hh ∈ ws := by rw [hw]; exact List.mem_cons_self
  refine ⟨⟨hrc, hrs, hR.1, hR.2, pay_in ht hG, hc⟩, ht _ (hG _ hc).1, ok _ (by simp [va_wsS]), ⟨hd.1, hd.2.1⟩, fun sig h => ?_, ok _ (by simp [va_wsS]), ok _ (by simp [va_wsS])⟩
  have h2 := hd.2.2
  rw [h] at h2
  exact (Option.some.inj h2).symm
theorem vx_callSW (X : Stand p l e R s m args below meth c T locs cells slots) (hexec : p.tables.exec = Jvm.exec) {own : String} {index : Nat} {y : MethodName} {bytes : ByteArray} {maxL : Nat} {ret : Option FieldType} {hh : List (Nat × Nat × Nat × Nat)}
    (hown : s.vm.findClass own = some m.cls) (hlink : (Cond.methodLink own index y).before args s = true) (hstat : (Cond.static y).before args s = true) (hinit : (Cond.initialized y.cls).before args s = true)
    (hcode : (Cond.codeWith y bytes maxL ret hh).before args s = true) (hy : y.cls ≠ "java/lang/invoke/MethodHandle" ∧ y.cls ≠ "java/lang/invoke/VarHandle")
    {W9 : Nat} {Pre : Pt → Array Value → Prop} {Post : Pt → Array Value → Option Value → Pt → Prop} (hK : Back l R p e below s args y 3 W9 Pre Post)
    {g : JFrame} (hg : g.method = m) (hsize : g.locals.size = c.maxLocals) {argsL rest : List Value} (hlen : ∀ sig, parseMethodDescriptor y.desc = some sig → argsL.length = sig.parameters.length)
    (hstack : g.stack = argsL.reverse ++ rest) (hW : 2 * g.monitorRoom + (rest.map fun v => v.category).sum ≤ W9) (hdg : decode c.code g.pc = .ok (.invokestatic index, 3))
    (hpre : ∀ vm₁, s.WarmedH vm₁ → Pre ⟨T.setVm vm₁, locs, cells, slots⟩ argsL.toArray) :
    ∃ (v : Option Value) (vm₁ : Vm) (B : Pt), s.WarmedH vm₁ ∧ Stand p l e R s m args below meth c B.U B.locs B.cells B.slots ∧ Post ⟨T.setVm vm₁, locs, cells, slots⟩ argsL.toArray v B ∧
      ∀ target, Steps p.tables e below (B.U.setTop { g with pc := g.pc + 3, stack := v.toList ++ rest }) target → Steps p.tables e below (T.setTop g) target := by
  obtain ⟨mk, methM, cM, hnamed, hmethM, -, -, -, -, -, -, hsigM⟩ := Cond.codeWith_spec hcode
  have hstatic : methM.isStatic = true := Cond.static_spec hnamed hmethM hstat
  obtain ⟨kP, hkP, -⟩ := className_of_methodNamed hnamed
  have hinitP : kP.init = .initialized := Cond.initialized_spec (findClass_of_methodNamed hnamed) hkP hinit
  obtain ⟨vm₁, X₁, hstep₁⟩ := X.invokestatic hexec hown hlink hnamed hmethM hstatic hkP hinitP hy (g := g) hg (argsL := argsL) (rest := rest) (hlen _ hsigM) hstack hdg
  obtain ⟨v, B, X', hpost, hsteps⟩ := hK m meth c ⟨T.setVm vm₁, locs, cells, slots⟩ { g with stack := rest } (.invokestatic index) mk argsL.toArray X₁ hg hsize hdg hW (X₁.named hnamed) (hpre vm₁ X₁.warmed)
  exact ⟨v, vm₁, B, X₁.warmed, X', hpost, fun target h => hstep₁ _ fun acts => by rw [doInvoke_state]; exact hsteps.trans h⟩
theorem vx_runSW {y : MethodName} {bytes cc : ByteArray} {maxL nL mc ms n index : Nat} {ret : Option FieldType} {hh : List (Nat × Nat × Nat × Nat)} {ws : List Cond} {rm : Room} {Pc : Array Value → State → Prop} {Qc : Array Value → State → Outcome → State → Prop} {free : Addr → Prop} {Ts : List Cond} {own : String} {As rest : List Value} {g : JFrame}
    (S : CallFix p m c cc nL s args Ts own) (hM : Met l y ws rm Pc Qc mc ms free) (cw : vx_CSW R s args own index y bytes maxL ret hh ws rm mc ms n) (hp : PreS s H Pc As)
    (hg : g.method = m) (hn : As.length = n) (hsize : g.locals.size = nL) (hstack : g.stack = As.reverse ++ rest) (hW : 2 * g.monitorRoom + (rest.map fun v => v.category).sum ≤ 8) (hdg : decode cc g.pc = .ok (.invokestatic index, 3)) (hf : cells + mc ≤ R.cells ∧ slots + ms ≤ R.slots) :
    va_Run p l e R s m args below meth c H locs cells slots mc ms g rest (Qc As.toArray) (free) := by
  obtain ⟨⟨hrc, hrs, hfr, hlo, hws, hcw⟩, hcode, hini, hy, hlen, hl, hstt⟩ := cw
  have hK : Back l R p e below s args y 3 8 (PreOf R mc ms Pc) (PostOf Qc mc ms free) := va_backW (hh := hh) (bytes := bytes) (maxL := maxL) (ret := ret) hM hp.1 hrc hrs hfr hlo hws hcw (fun a' U hW => word_at hW (Or.inl (by first | rfl | simp [Cond.onTables, Cond.keeps, Cond.steady])) hini)
  obtain ⟨hx, hb, hml, ho, -⟩ := S
  intro T hT X
  obtain ⟨v, vm₁, ⟨U', l2, c2, s2⟩, hW₁, X', ⟨g', mk, t, L, e1, e2, hq, h1, hL, h2, h3⟩, st⟩ := vx_callSW X hx (hh := hh) (bytes := bytes) (maxL := maxL) (ret := ret) ho hl hstt hini hcode hy hK hg (hsize.trans hml.symm) (argsL := As) (rest := rest) (fun sig h => hn.trans (hlen sig h)) hstack hW (by rw [hb]; exact hdg)
    (fun vm₁ hW₁ => ⟨hf.1, hf.2, hp.2 (T.setVm vm₁) hT hW₁⟩)
  dsimp only [Pt.U, Pt.locs, Pt.cells, Pt.slots] at X' e1 e2 h1 h2 h3 st
  subst h1; subst h2; subst h3
  exact ⟨v, (T.setVm vm₁).calling g' mk As.toArray, t, U', L, hT, X', hL, e1, e2, hq, st⟩
/-- a thing of a world lies in the heap -/
theorem vx_lt {D : va_G} {cl : List vw_C} {ws : va_W} {H1 : Heap} (h : va_P D cl ws H1) {k : Nat} {q : Nat × va_E} (hk : ws[k]? = some q) : q.1 < H1.size := (h k q hk).lt
end VXS
/-! ===== END ===== -/
/-! ===== BEGIN methods with a table of their own: called by a name, returning or throwing ===== -/
section VXH
/-! vx_backW, vx_callVX, vx_callSX, vx_callVW, vx_runVW, vx_runVX, vx_runSX, vx_ofWH follow the same proofs as their sisters above (Free/Laws.lean, Shelf42/LK1.lean); vx_outP calls Shelf42/NT130.lean (outThrough). -/
section
variable {l : Launch} {R : Room} {p : Program} {e : Env} {below : List Frame} {s : State} {sargs : Array Value} {y : MethodName} {len W9 : Nat}
theorem vx_backW {ws : List Cond} {rm : Room} {Pc : Array Value → State → Prop} {Qc : Array Value → State → Outcome → State → Prop} {XC : String → State → State → Prop} {mc ms : Nat} {free : Addr → Prop} {bytes : ByteArray} {maxL : Nat} {ret : Option FieldType} {hh : List (Nat × Nat × Nat × Nat)}
    (hM : vx_Met l y ws rm Pc Qc XC mc ms free) (hblind : FrameBlind Pc) (hrc : rm.cells = mc) (hrs : rm.slots = ms)
    (hframes : rm.frames + 1 ≤ R.frames) (hlocals : W9 + (maxL + 11) + rm.locals ≤ R.locals)
    (hws : ∀ w ∈ ws, ∀ a' U, s.WarmedH U.vm → w.before a' U = true) (hcode : Cond.codeWith y bytes maxL ret hh ∈ ws) (hinit : ∀ a' U, s.WarmedH U.vm → (Cond.initialized y.cls).before a' U = true) :
    vx_Back l R p e below s sargs y len W9 (PreOf R mc ms Pc) (PostOf Qc mc ms free) (vx_Post XC mc ms free) := by
  intro m meth c A g ig mk a X hg hsize hdg hW hn hp
  have h1 : (headSpec ws rm).pre.before a A.U = true := atoms_intro fun w hw => hws w hw _ _ X.warmed
  have h2 : (Cond.codeWith y bytes maxL ret hh).before a A.U = true := hws _ hcode _ _ X.warmed
  have h3 : (Cond.initialized y.cls).before a A.U = true := hinit _ _ X.warmed
  have h4 : A.cells + (headSpec ws rm).room.cells ≤ R.cells := by rw [show (headSpec ws rm).room.cells = mc from hrc]; exact hp.1
  have h5 : A.slots + (headSpec ws rm).room.slots ≤ R.slots := by rw [show (headSpec ws rm).room.slots = ms from hrs]; exact hp.2.1
  have hPc : Pc a (A.U.calling g mk a) := hblind _ _ _ _ hp.2.2
  obtain ⟨U, Ls, c0, s0⟩ := A
  dsimp only [Pt.U, Pt.locs, Pt.cells, Pt.slots] at h1 h2 h3 h4 h5 X hn hPc ⊢
  obtain ⟨m9, methY, cY, hn9, hmY, hcY, -, hlY, -⟩ := Cond.codeWith_spec h2
  cases Option.some.inj (hn9.symm.trans hn)
  obtain ⟨kY, hkY, -⟩ := className_of_methodNamed hn
  have hinitY : kY.init = .initialized := Cond.initialized_spec (findClass_of_methodNamed hn) hkY h3
  have h : At U g.method c below := by rw [hg]; exact X.here
  have hlocals9 : W9 + (maxL + 11) + (headSpec ws rm).room.locals ≤ R.locals := hlocals
  have happ : (headSpec ws rm).appliesLoose y e.platform (U.calling g mk a) = true :=
    Spec.appliesLoose_calling (g := g) h hdg hn hkY hinitY
      (X.room_calling (g := g) (R' := (headSpec ws rm).room) hsize hmY hcY hframes (by rw [hlY]; omega) h4 h5) h1
  obtain ⟨mid, hmid⟩ := h.above
  have hfr : (U.setTop g).frames = (.java g :: mid) ++ below := by rw [State.frames_setTop' g h.top, hmid]; rfl
  obtain ⟨o, s₂, hsteps, -, hend, hq⟩ := Steps.callFree hM p X.admits X.cas X.clock (acts := []) hfr happ hPc trivial
  have hq' : vx_Q Qc XC mc ms free a (U.calling g mk a) o s₂ := hq
  rw [State.frames_setTop' g h.top] at hend
  obtain ⟨g₀, hg0⟩ := Option.isSome_iff_exists.mp h.top
  obtain ⟨r, hr⟩ := State.topJava?_eq_some.mp hg0
  have hr' : (({ U with heap := s₂.heap, slotsUsed := s₂.slotsUsed } : State).setVm s₂.vm).frames = .java g₀ :: r := hr
  rcases hq' with ⟨hqc, L, hfe, hL⟩ | ⟨q, rfl, E, ce, L, hx, hce, hcv, hcl, hW₂, hsm, hL⟩
  · obtain ⟨⟨v, rfl⟩, hW₂, e2, q2, q3, q4, q5, q6⟩ := id hfe
    have e3 : s₂ = ({ (U.calling g mk a).setFrames s₂.frames with heap := s₂.heap, slotsUsed := s₂.slotsUsed } : State).setVm s₂.vm := by
      have : s₂ = ({ s₂ with vm := (U.calling g mk a).vm } : State).setVm s₂.vm := rfl
      rw [e2] at this
      exact this
    obtain ⟨c₂, i₂, len₂, hc₂, hd₂, hf₂⟩ := hend
    have hW' : U.WarmedH s₂.vm := hW₂
    have hcc : c₂ = c := by
      have h1 : s₂.code? g.method = U.code? g.method := by
        rw [State.code?_eq, State.code?_eq, hW'.alike.method?]
      exact Option.some.inj (hc₂.symm.trans (h1.trans h.code))
    subst hcc
    have hlen : len₂ = len := by rw [hdg] at hd₂; cases hd₂; rfl
    subst hlen
    have hs₂ : s₂ = (({ U with heap := s₂.heap, slotsUsed := s₂.slotsUsed } : State).setVm s₂.vm).setTop { g with pc := g.pc + len₂, stack := v.toList ++ g.stack } := by
      refine e3.trans ?_
      rw [hf₂, State.calling_eq h.top, State.setFrames_setFrames, State.setTop_of_frames _ hr', hr]
      rfl
    have hsame : U.sameButNew ({ U with heap := s₂.heap, slotsUsed := s₂.slotsUsed } : State) L mc ms := by
      refine ⟨?_, q2, q3, q4, q5, q6⟩
      obtain ⟨t, ht, -⟩ := State.frames_cons hr
      show ({ U with heap := s₂.heap, slotsUsed := s₂.slotsUsed } : State) = { U.setFrames U.frames with heap := s₂.heap, slotsUsed := s₂.slotsUsed }
      rw [State.setFrames_self ht]
    subst hg
    refine Or.inl ⟨v, ⟨(({ U with heap := s₂.heap, slotsUsed := s₂.slotsUsed } : State).setVm s₂.vm), Ls ++ L, c0 + mc, s0 + ms⟩,
      ⟨X.admits, X.cas, X.clock, X.frames, X.room, X.hears, X.method, X.code, (X.here.setHeapUsed s₂.heap s₂.slotsUsed).setVm hW'.alike, X.tail, State.WarmedH.trans X.warmed hW', X.limits, X.bytes, X.same.trans (hsame.setVm s.vm)⟩,
      ⟨g, mk, s₂, L, rfl, rfl, hqc, rfl, hL, rfl, rfl⟩, ?_⟩
    show Steps p.tables e below _ ((({ U with heap := s₂.heap, slotsUsed := s₂.slotsUsed } : State).setVm s₂.vm).setTop { g with pc := g.pc + len₂, stack := v.toList ++ g.stack })
    rw [← hs₂]
    exact hsteps
  · obtain ⟨e2, q2, q3, q4, q5, q6⟩ := id hsm
    have e3 : s₂ = ({ (U.calling g mk a).setFrames s₂.frames with heap := s₂.heap, slotsUsed := s₂.slotsUsed } : State).setVm s₂.vm := by
      have : s₂ = ({ s₂ with vm := (U.calling g mk a).vm } : State).setVm s₂.vm := rfl
      rw [e2] at this
      exact this
    have hf₂ : s₂.frames = .throwing q :: .java g :: U.frames.tail := hend
    have hW' : U.WarmedH s₂.vm := hW₂
    have hs₂ : s₂ = ((({ U with heap := s₂.heap, slotsUsed := s₂.slotsUsed } : State).setVm s₂.vm).setTop g).pushFrame (.throwing q) := by
      refine e3.trans ?_
      rw [hf₂, State.calling_eq h.top, State.setFrames_setFrames, State.pushFrame, State.frames_setTop _ hr', State.setTop_of_frames _ hr', State.setFrames_setFrames, hr]
      rfl
    have hsame : U.sameButNew ({ U with heap := s₂.heap, slotsUsed := s₂.slotsUsed } : State) L mc ms := by
      refine ⟨?_, q2, q3, q4, q5, q6⟩
      obtain ⟨t, ht, -⟩ := State.frames_cons hr
      show ({ U with heap := s₂.heap, slotsUsed := s₂.slotsUsed } : State) = { U.setFrames U.frames with heap := s₂.heap, slotsUsed := s₂.slotsUsed }
      rw [State.setFrames_self ht]
    subst hg
    refine Or.inr ⟨q, ⟨(({ U with heap := s₂.heap, slotsUsed := s₂.slotsUsed } : State).setVm s₂.vm), Ls ++ L, c0 + mc, s0 + ms⟩,
      ⟨X.admits, X.cas, X.clock, X.frames, X.room, X.hears, X.method, X.code, (X.here.setHeapUsed s₂.heap s₂.slotsUsed).setVm hW'.alike, X.tail, State.WarmedH.trans X.warmed hW', X.limits, X.bytes, X.same.trans (hsame.setVm s.vm)⟩,
      ⟨g, mk, s₂, L, E, ce, rfl, rfl, hx, hce, hcv, hcl, rfl, hL, rfl, rfl⟩, ?_⟩
    show Steps p.tables e below _ (((({ U with heap := s₂.heap, slotsUsed := s₂.slotsUsed } : State).setVm s₂.vm).setTop g).pushFrame (.throwing q))
    rw [← hs₂]
    exact hsteps
end
variable {p : Program} {l : Launch} {e : Env} {R : Room} {s : State} {m : MethodId} {args : Array Value} {below : List Frame} {meth : Method} {c : Code} {T : State} {H : Heap} {locs : List Loc} {cells slots : Nat}
theorem vx_callVX (X : Stand p l e R s m args below meth c T locs cells slots) (hexec : p.tables.exec = Jvm.exec) {own C : String} {index : Nat} {y : MethodName} {bytes : ByteArray} {maxL : Nat} {ret : Option FieldType} {hh : List (Nat × Nat × Nat × Nat)}
    (hown : s.vm.findClass own = some m.cls) (hlink : (Cond.methodLink own index y).before args s = true) (hinst : (Cond.instanceMethod y).before args s = true) (hsel : (Cond.selects C y y).before args s = true)
    (hcode : (Cond.codeWith y bytes maxL ret hh).before args s = true) (hy : y.cls ≠ "java/lang/invoke/MethodHandle" ∧ y.cls ≠ "java/lang/invoke/VarHandle")
    {W9 : Nat} {Pre : Pt → Array Value → Prop} {Post : Pt → Array Value → Option Value → Pt → Prop} {PostX : Pt → Array Value → Addr → Pt → Prop} (hK : vx_Back l R p e below s args y 3 W9 Pre Post PostX)
    {b : Addr} {cellB : Cell} (hcell : T.heap[b]? = some cellB) (hobj : cellB.vm.isStatics = false) (hcls : s.vm.findClass C = some cellB.cls)
    {g : JFrame} (hg : g.method = m) (hsize : g.locals.size = c.maxLocals) {argsL rest : List Value} (hlen : ∀ sig, parseMethodDescriptor y.desc = some sig → argsL.length = sig.parameters.length)
    (hstack : g.stack = argsL.reverse ++ .ref b :: rest) (hW : 2 * g.monitorRoom + (rest.map fun v => v.category).sum ≤ W9) (hdg : decode c.code g.pc = .ok (.invokevirtual index, 3))
    (hpre : ∀ vm₁, s.WarmedH vm₁ → Pre ⟨T.setVm vm₁, locs, cells, slots⟩ (Value.ref b :: argsL).toArray) :
    (∃ (v : Option Value) (vm₁ : Vm) (B : Pt), s.WarmedH vm₁ ∧ Stand p l e R s m args below meth c B.U B.locs B.cells B.slots ∧ Post ⟨T.setVm vm₁, locs, cells, slots⟩ (Value.ref b :: argsL).toArray v B ∧
      ∀ target, Steps p.tables e below (B.U.setTop { g with pc := g.pc + 3, stack := v.toList ++ rest }) target → Steps p.tables e below (T.setTop g) target) ∨
    (∃ (q : Addr) (vm₁ : Vm) (B : Pt), s.WarmedH vm₁ ∧ Stand p l e R s m args below meth c B.U B.locs B.cells B.slots ∧ PostX ⟨T.setVm vm₁, locs, cells, slots⟩ (Value.ref b :: argsL).toArray q B ∧
      Steps p.tables e below (T.setTop g) ((B.U.setTop { g with stack := rest }).pushFrame (.throwing q))) := by
  obtain ⟨mk, methM, hnamed, hmethM, hstM, habM⟩ := Cond.instanceMethod_spec hinst
  obtain ⟨m8, methM', cM, hn8, hmethM', -, -, -, -, -, -, hsigM⟩ := Cond.codeWith_spec hcode
  cases Option.some.inj (hn8.symm.trans hnamed)
  cases hmethM.symm.trans hmethM'
  obtain ⟨c2, r2, m2, q1, q2, q3, q4, kP, hkP, hkPi⟩ := Cond.selects_spec hsel
  cases hcls.symm.trans q1
  cases (State.methodFound?_of_named hnamed hy).symm.trans q2
  cases hnamed.symm.trans q3
  have hselP : selectMethod e.platform s.vm cellB.cls mk = .method mk := by rw [Launch.admits_selectMethod X.admits]; exact q4
  obtain ⟨vm₁, X₁, hstep₁⟩ := X.invokevirtual hexec hown hlink hnamed hmethM hstM hkP hkPi hy (a := b) (cell := cellB) hcell
    (fun z h => by rw [h] at hobj; cases hobj) hselP hmethM habM hkP hkPi (g := g) hg (argsL := argsL) (rest := rest) (hlen _ hsigM) hstack hdg
  rcases hK m meth c ⟨T.setVm vm₁, locs, cells, slots⟩ { g with stack := rest } (.invokevirtual index) mk (Value.ref b :: argsL).toArray X₁ hg hsize hdg hW (X₁.named hnamed) (hpre vm₁ X₁.warmed) with ⟨v, B, X', hpost, hsteps⟩ | ⟨q, B, X', hpost, hsteps⟩
  · exact Or.inl ⟨v, vm₁, B, X₁.warmed, X', hpost, fun target h => hstep₁ _ fun acts => by rw [doInvoke_state]; exact hsteps.trans h⟩
  · exact Or.inr ⟨q, vm₁, B, X₁.warmed, X', hpost, hstep₁ _ fun acts => by rw [doInvoke_state]; exact hsteps⟩
theorem vx_callSX (X : Stand p l e R s m args below meth c T locs cells slots) (hexec : p.tables.exec = Jvm.exec) {own : String} {index : Nat} {y : MethodName} {bytes : ByteArray} {maxL : Nat} {ret : Option FieldType} {hh : List (Nat × Nat × Nat × Nat)}
    (hown : s.vm.findClass own = some m.cls) (hlink : (Cond.methodLink own index y).before args s = true) (hstat : (Cond.static y).before args s = true) (hinit : (Cond.initialized y.cls).before args s = true)
    (hcode : (Cond.codeWith y bytes maxL ret hh).before args s = true) (hy : y.cls ≠ "java/lang/invoke/MethodHandle" ∧ y.cls ≠ "java/lang/invoke/VarHandle")
    {W9 : Nat} {Pre : Pt → Array Value → Prop} {Post : Pt → Array Value → Option Value → Pt → Prop} {PostX : Pt → Array Value → Addr → Pt → Prop} (hK : vx_Back l R p e below s args y 3 W9 Pre Post PostX)
    {g : JFrame} (hg : g.method = m) (hsize : g.locals.size = c.maxLocals) {argsL rest : List Value} (hlen : ∀ sig, parseMethodDescriptor y.desc = some sig → argsL.length = sig.parameters.length)
    (hstack : g.stack = argsL.reverse ++ rest) (hW : 2 * g.monitorRoom + (rest.map fun v => v.category).sum ≤ W9) (hdg : decode c.code g.pc = .ok (.invokestatic index, 3))
    (hpre : ∀ vm₁, s.WarmedH vm₁ → Pre ⟨T.setVm vm₁, locs, cells, slots⟩ argsL.toArray) :
    (∃ (v : Option Value) (vm₁ : Vm) (B : Pt), s.WarmedH vm₁ ∧ Stand p l e R s m args below meth c B.U B.locs B.cells B.slots ∧ Post ⟨T.setVm vm₁, locs, cells, slots⟩ argsL.toArray v B ∧
      ∀ target, Steps p.tables e below (B.U.setTop { g with pc := g.pc + 3, stack := v.toList ++ rest }) target → Steps p.tables e below (T.setTop g) target) ∨
    (∃ (q : Addr) (vm₁ : Vm) (B : Pt), s.WarmedH vm₁ ∧ Stand p l e R s m args below meth c B.U B.locs B.cells B.slots ∧ PostX ⟨T.setVm vm₁, locs, cells, slots⟩ argsL.toArray q B ∧
      Steps p.tables e below (T.setTop g) ((B.U.setTop { g with stack := rest }).pushFrame (.throwing q))) := by
  obtain ⟨mk, methM, cM, hnamed, hmethM, -, -, -, -, -, -, hsigM⟩ := Cond.codeWith_spec hcode
  have hstatic : methM.isStatic = true := Cond.static_spec hnamed hmethM hstat
  obtain ⟨kP, hkP, -⟩ := className_of_methodNamed hnamed
  have hinitP : kP.init = .initialized := Cond.initialized_spec (findClass_of_methodNamed hnamed) hkP hinit
  obtain ⟨vm₁, X₁, hstep₁⟩ := X.invokestatic hexec hown hlink hnamed hmethM hstatic hkP hinitP hy (g := g) hg (argsL := argsL) (rest := rest) (hlen _ hsigM) hstack hdg
  rcases hK m meth c ⟨T.setVm vm₁, locs, cells, slots⟩ { g with stack := rest } (.invokestatic index) mk argsL.toArray X₁ hg hsize hdg hW (X₁.named hnamed) (hpre vm₁ X₁.warmed) with ⟨v, B, X', hpost, hsteps⟩ | ⟨q, B, X', hpost, hsteps⟩
  · exact Or.inl ⟨v, vm₁, B, X₁.warmed, X', hpost, fun target h => hstep₁ _ fun acts => by rw [doInvoke_state]; exact hsteps.trans h⟩
  · exact Or.inr ⟨q, vm₁, B, X₁.warmed, X', hpost, hstep₁ _ fun acts => by rw [doInvoke_state]; exact hsteps⟩
theorem vx_callVW (X : Stand p l e R s m args below meth c T locs cells slots) (hexec : p.tables.exec = Jvm.exec) {own C : String} {index : Nat} {y : MethodName} {bytes : ByteArray} {maxL : Nat} {ret : Option FieldType} {hh : List (Nat × Nat × Nat × Nat)}
    (hown : s.vm.findClass own = some m.cls) (hlink : (Cond.methodLink own index y).before args s = true) (hinst : (Cond.instanceMethod y).before args s = true) (hsel : (Cond.selects C y y).before args s = true)
    (hcode : (Cond.codeWith y bytes maxL ret hh).before args s = true) (hy : y.cls ≠ "java/lang/invoke/MethodHandle" ∧ y.cls ≠ "java/lang/invoke/VarHandle")
    {W9 : Nat} {Pre : Pt → Array Value → Prop} {Post : Pt → Array Value → Option Value → Pt → Prop} (hK : Back l R p e below s args y 3 W9 Pre Post)
    {b : Addr} {cellB : Cell} (hcell : T.heap[b]? = some cellB) (hobj : cellB.vm.isStatics = false) (hcls : s.vm.findClass C = some cellB.cls)
    {g : JFrame} (hg : g.method = m) (hsize : g.locals.size = c.maxLocals) {argsL rest : List Value} (hlen : ∀ sig, parseMethodDescriptor y.desc = some sig → argsL.length = sig.parameters.length)
    (hstack : g.stack = argsL.reverse ++ .ref b :: rest) (hW : 2 * g.monitorRoom + (rest.map fun v => v.category).sum ≤ W9) (hdg : decode c.code g.pc = .ok (.invokevirtual index, 3))
    (hpre : ∀ vm₁, s.WarmedH vm₁ → Pre ⟨T.setVm vm₁, locs, cells, slots⟩ (Value.ref b :: argsL).toArray) :
    ∃ (v : Option Value) (vm₁ : Vm) (B : Pt), s.WarmedH vm₁ ∧ Stand p l e R s m args below meth c B.U B.locs B.cells B.slots ∧ Post ⟨T.setVm vm₁, locs, cells, slots⟩ (Value.ref b :: argsL).toArray v B ∧
      ∀ target, Steps p.tables e below (B.U.setTop { g with pc := g.pc + 3, stack := v.toList ++ rest }) target → Steps p.tables e below (T.setTop g) target := by
  obtain ⟨mk, methM, hnamed, hmethM, hstM, habM⟩ := Cond.instanceMethod_spec hinst
  obtain ⟨m8, methM', cM, hn8, hmethM', -, -, -, -, -, -, hsigM⟩ := Cond.codeWith_spec hcode
  cases Option.some.inj (hn8.symm.trans hnamed)
  cases hmethM.symm.trans hmethM'
  obtain ⟨c2, r2, m2, q1, q2, q3, q4, kP, hkP, hkPi⟩ := Cond.selects_spec hsel
  cases hcls.symm.trans q1
  cases (State.methodFound?_of_named hnamed hy).symm.trans q2
  cases hnamed.symm.trans q3
  have hselP : selectMethod e.platform s.vm cellB.cls mk = .method mk := by rw [Launch.admits_selectMethod X.admits]; exact q4
  obtain ⟨vm₁, X₁, hstep₁⟩ := X.invokevirtual hexec hown hlink hnamed hmethM hstM hkP hkPi hy (a := b) (cell := cellB) hcell
    (fun z h => by rw [h] at hobj; cases hobj) hselP hmethM habM hkP hkPi (g := g) hg (argsL := argsL) (rest := rest) (hlen _ hsigM) hstack hdg
  obtain ⟨v, B, X', hpost, hsteps⟩ := hK m meth c ⟨T.setVm vm₁, locs, cells, slots⟩ { g with stack := rest } (.invokevirtual index) mk (Value.ref b :: argsL).toArray X₁ hg hsize hdg hW (X₁.named hnamed) (hpre vm₁ X₁.warmed)
  exact ⟨v, vm₁, B, X₁.warmed, X', hpost, fun target h => hstep₁ _ fun acts => by rw [doInvoke_state]; exact hsteps.trans h⟩
abbrev vx_CVW (R : Room) (s : State) (args : Array Value) (own C : String) (index : Nat) (y : MethodName) (bytes : ByteArray) (maxL : Nat) (ret : Option FieldType) (hh : List (Nat × Nat × Nat × Nat)) (ws : List Cond) (rm : Room) (mc ms n : Nat) : Prop :=
  (rm.cells = mc ∧ rm.slots = ms ∧ rm.frames + 1 ≤ R.frames ∧ 8 + (maxL + 11) + rm.locals ≤ R.locals ∧ (∀ w ∈ ws, ∀ (a' : Array Value) (U : State), s.WarmedH U.vm → w.before a' U = true) ∧ Cond.codeWith y bytes maxL ret hh ∈ ws) ∧
  (Cond.codeWith y bytes maxL ret hh).before args s = true ∧ (Cond.initialized y.cls).before args s = true ∧ (y.cls ≠ "java/lang/invoke/MethodHandle" ∧ y.cls ≠ "java/lang/invoke/VarHandle") ∧
  (∀ sig, parseMethodDescriptor y.desc = some sig → n = sig.parameters.length) ∧ (Cond.methodLink own index y).before args s = true ∧ (Cond.instanceMethod y).before args s = true ∧ (Cond.selects C y y).before args s = true
theorem vx_cwVW {own C : String} {index maxL mc ms : Nat} {y : MethodName} {bytes : ByteArray} {ret : Option FieldType} {hh : List (Nat × Nat × Nat × Nat)} {Ts ws ws' : List Cond} {rm : Room} (n : Nat) (ht : ∀ w ∈ Ts, w.before args s = true) (hT : GoodIn Ts (wsV own index C y ws)) (hw : ws = Cond.codeWith y bytes maxL ret hh :: ws') (hrc : rm.cells = mc) (hrs : rm.slots = ms)
    (hd : y.cls = C ∧ y.cls ≠ "java/lang/invoke/MethodHandle" ∧ y.cls ≠ "java/lang/invoke/VarHandle" ∧ (parseMethodDescriptor y.desc).map (fun d => d.parameters.length) = some n) (hR : rm.frames + 1 ≤ R.frames ∧ 8 + (maxL + 11) + rm.locals ≤ R.locals) :
    vx_CVW R s args own C index y bytes maxL ret hh ws rm mc ms n := by
  obtain ⟨hC, hd⟩ := hd
  subst hC
  have ok : ∀ w ∈ wsV own index y.cls y ws, w.before args s = true := fun w h => ht w (hT w h).1
  have hG : GoodIn Ts ws := fun w h => hT w (by unfold wsV; exact List.mem_append_right _ h)
  have hc : Cond.codeWith y bytes maxL ret hh ∈ ws := by rw [hw]; exact List.mem_cons_self
  refine ⟨⟨hrc, hrs, hR.1, hR.2, pay_in ht hG, hc⟩, ht _ (hG _ hc).1, ok _ (by simp [wsV]), ⟨hd.1, hd.2.1⟩, fun sig h => ?_, ok _ (by simp [wsV]), ok _ (by simp [wsV]), ok _ (by simp [wsV])⟩
  have h2 := hd.2.2
  rw [h] at h2
  exact (Option.some.inj h2).symm
theorem vx_runVW {y : MethodName} {bytes cc : ByteArray} {maxL nL mc ms n index : Nat} {ret : Option FieldType} {hh : List (Nat × Nat × Nat × Nat)} {ws : List Cond} {rm : Room} {Pc : Array Value → State → Prop} {Qc : Array Value → State → Outcome → State → Prop} {free : Addr → Prop} {Ts : List Cond} {own C : String} {b : Addr} {As rest : List Value} {g : JFrame}
    (S : CallFix p m c cc nL s args Ts own) (hM : Met l y ws rm Pc Qc mc ms free) (cw : vx_CVW R s args own C index y bytes maxL ret hh ws rm mc ms n) (hp : PreV s H C b Pc As)
    (hg : g.method = m) (hn : As.length = n) (hsize : g.locals.size = nL) (hstack : g.stack = As.reverse ++ .ref b :: rest) (hW : 2 * g.monitorRoom + (rest.map fun v => v.category).sum ≤ 8) (hdg : decode cc g.pc = .ok (.invokevirtual index, 3)) (hf : cells + mc ≤ R.cells ∧ slots + ms ≤ R.slots) :
    va_Run p l e R s m args below meth c H locs cells slots mc ms g rest (Qc (Value.ref b :: As).toArray) free := by
  obtain ⟨⟨hrc, hrs, hfr, hlo, hws, hcw⟩, hcode, hini, hy, hlen, hl, hin, hse⟩ := cw
  have hK : Back l R p e below s args y 3 8 (PreOf R mc ms Pc) (PostOf Qc mc ms free) := va_backW (hh := hh) (bytes := bytes) (maxL := maxL) (ret := ret) hM hp.1 hrc hrs hfr hlo hws hcw (fun a' U hW => word_at hW (Or.inl (by first | rfl | simp [Cond.onTables, Cond.keeps, Cond.steady])) hini)
  obtain ⟨hx, hb, hml, ho, -⟩ := S
  obtain ⟨-, ⟨cellB, hcB, hoB, hclB⟩, hPc⟩ := hp
  intro T hT X
  obtain ⟨v, vm₁, ⟨U', l2, c2, s2⟩, hW₁, X', ⟨g', mk, t, L, e1, e2, hq, h1, hL, h2, h3⟩, st⟩ := vx_callVW X hx (C := C) (hh := hh) (bytes := bytes) (maxL := maxL) (ret := ret) ho hl hin hse hcode hy hK (by rw [hT]; exact hcB) hoB hclB hg (hsize.trans hml.symm) (argsL := As) (rest := rest) (fun sig h => hn.trans (hlen sig h)) hstack hW (by rw [hb]; exact hdg)
    (fun vm₁ hW₁ => ⟨hf.1, hf.2, hPc (T.setVm vm₁) hT hW₁⟩)
  dsimp only [Pt.U, Pt.locs, Pt.cells, Pt.slots] at X' e1 e2 h1 h2 h3 st
  subst h1; subst h2; subst h3
  exact ⟨v, (T.setVm vm₁).calling g' mk (Value.ref b :: As).toArray, t, U', L, hT, X', hL, e1, e2, hq, st⟩
section
variable {y : MethodName} {bytes cc : ByteArray} {maxL nL mc ms n index : Nat} {ret : Option FieldType} {ws : List Cond} {rm : Room} {Pc : Array Value → State → Prop} {Qc : Array Value → State → Outcome → State → Prop} {XC : String → State → State → Prop} {free : Addr → Prop} {Ts : List Cond} {own C : String} {b : Addr} {As rest : List Value} {g : JFrame}
theorem vx_runVX {hh : List (Nat × Nat × Nat × Nat)} (S : CallFix p m c cc nL s args Ts own) (hM : vx_Met l y ws rm Pc Qc XC mc ms free) (cw : vx_CVW R s args own C index y bytes maxL ret hh ws rm mc ms n) (hp : PreV s H C b Pc As)
    (hg : g.method = m) (hn : As.length = n) (hsize : g.locals.size = nL) (hstack : g.stack = As.reverse ++ .ref b :: rest) (hW : 2 * g.monitorRoom + (rest.map fun v => v.category).sum ≤ 8) (hdg : decode cc g.pc = .ok (.invokevirtual index, 3)) (hf : cells + mc ≤ R.cells ∧ slots + ms ≤ R.slots) :
    vx_Run p l e R s m args below meth c H locs cells slots mc ms g rest (Qc (Value.ref b :: As).toArray) XC free := by
  obtain ⟨⟨hrc, hrs, hfr, hlo, hws, hcw⟩, hcode, hini, hy, hlen, hl, hin, hse⟩ := cw
  have hK : vx_Back l R p e below s args y 3 8 (PreOf R mc ms Pc) (PostOf Qc mc ms free) (vx_Post XC mc ms free) := vx_backW (hh := hh) (bytes := bytes) (maxL := maxL) (ret := ret) hM hp.1 hrc hrs hfr hlo hws hcw (fun a' U hW => word_at hW (Or.inl (by first | rfl | simp [Cond.onTables, Cond.keeps, Cond.steady])) hini)
  obtain ⟨hx, hb, hml, ho, -⟩ := S
  obtain ⟨-, ⟨cellB, hcB, hoB, hclB⟩, hPc⟩ := hp
  intro T hT X
  rcases vx_callVX X hx (C := C) (hh := hh) (bytes := bytes) (maxL := maxL) (ret := ret) ho hl hin hse hcode hy hK (by rw [hT]; exact hcB) hoB hclB hg (hsize.trans hml.symm) (argsL := As) (rest := rest) (fun sig h => hn.trans (hlen sig h)) hstack hW (by rw [hb]; exact hdg)
    (fun vm₁ hW₁ => ⟨hf.1, hf.2, hPc (T.setVm vm₁) hT hW₁⟩) with ⟨v, vm₁, ⟨U', l2, c2, s2⟩, hW₁, X', ⟨g', mk, t, L, e1, e2, hq, h1, hL, h2, h3⟩, st⟩ | ⟨q, vm₁, ⟨U', l2, c2, s2⟩, hW₁, X', ⟨g', mk, t, L, E, ce, e1, e2, hq, hce, hcv, hcl, h1, hL, h2, h3⟩, st⟩
  · dsimp only [Pt.U, Pt.locs, Pt.cells, Pt.slots] at X' e1 e2 h1 h2 h3 st
    subst h1; subst h2; subst h3
    exact Or.inl ⟨v, (T.setVm vm₁).calling g' mk (Value.ref b :: As).toArray, t, U', L, hT, X', hL, e1, e2, hq, st⟩
  · dsimp only [Pt.U, Pt.locs, Pt.cells, Pt.slots] at X' e1 e2 h1 h2 h3 st hcl
    subst h1; subst h2; subst h3
    exact Or.inr ⟨q, (T.setVm vm₁).calling g' mk (Value.ref b :: As).toArray, t, U', L, E, ce, hT, X', hL, e1, e2, hq, hce, hcv, vx_cls hW₁ hcl, st⟩
theorem vx_runSX {hh : List (Nat × Nat × Nat × Nat)} (S : CallFix p m c cc nL s args Ts own) (hM : vx_Met l y ws rm Pc Qc XC mc ms free) (cw : vx_CSW R s args own index y bytes maxL ret hh ws rm mc ms n) (hp : PreS s H Pc As)
    (hg : g.method = m) (hn : As.length = n) (hsize : g.locals.size = nL) (hstack : g.stack = As.reverse ++ rest) (hW : 2 * g.monitorRoom + (rest.map fun v => v.category).sum ≤ 8) (hdg : decode cc g.pc = .ok (.invokestatic index, 3)) (hf : cells + mc ≤ R.cells ∧ slots + ms ≤ R.slots) :
    vx_Run p l e R s m args below meth c H locs cells slots mc ms g rest (Qc As.toArray) XC free := by
  obtain ⟨⟨hrc, hrs, hfr, hlo, hws, hcw⟩, hcode, hini, hy, hlen, hl, hstt⟩ := cw
  have hK : vx_Back l R p e below s args y 3 8 (PreOf R mc ms Pc) (PostOf Qc mc ms free) (vx_Post XC mc ms free) := vx_backW (hh := hh) (bytes := bytes) (maxL := maxL) (ret := ret) hM hp.1 hrc hrs hfr hlo hws hcw (fun a' U hW => word_at hW (Or.inl (by first | rfl | simp [Cond.onTables, Cond.keeps, Cond.steady])) hini)
  obtain ⟨hx, hb, hml, ho, -⟩ := S
  intro T hT X
  rcases vx_callSX X hx (hh := hh) (bytes := bytes) (maxL := maxL) (ret := ret) ho hl hstt hini hcode hy hK hg (hsize.trans hml.symm) (argsL := As) (rest := rest) (fun sig h => hn.trans (hlen sig h)) hstack hW (by rw [hb]; exact hdg)
    (fun vm₁ hW₁ => ⟨hf.1, hf.2, hp.2 (T.setVm vm₁) hT hW₁⟩) with ⟨v, vm₁, ⟨U', l2, c2, s2⟩, hW₁, X', ⟨g', mk, t, L, e1, e2, hq, h1, hL, h2, h3⟩, st⟩ | ⟨q, vm₁, ⟨U', l2, c2, s2⟩, hW₁, X', ⟨g', mk, t, L, E, ce, e1, e2, hq, hce, hcv, hcl, h1, hL, h2, h3⟩, st⟩
  · dsimp only [Pt.U, Pt.locs, Pt.cells, Pt.slots] at X' e1 e2 h1 h2 h3 st
    subst h1; subst h2; subst h3
    exact Or.inl ⟨v, (T.setVm vm₁).calling g' mk As.toArray, t, U', L, hT, X', hL, e1, e2, hq, st⟩
  · dsimp only [Pt.U, Pt.locs, Pt.cells, Pt.slots] at X' e1 e2 h1 h2 h3 st hcl
    subst h1; subst h2; subst h3
    exact Or.inr ⟨q, (T.setVm vm₁).calling g' mk As.toArray, t, U', L, E, ce, hT, X', hL, e1, e2, hq, hce, hcv, vx_cls hW₁ hcl, st⟩
end
end VXH
theorem vx_ofWH {l : Launch} {y : MethodName} {ws ws' : List Cond} {rm : Room} {Pc : Array Value → State → Prop} {Qc : Array Value → State → Outcome → State → Prop} {XC : String → State → State → Prop} {mc ms : Nat} {free : Addr → Prop} {cc : ByteArray} {maxL : Nat} {ret : Option FieldType} {hh : List (Nat × Nat × Nat × Nat)}
    (hy : plainName y.cls = true) (hw : ws = Cond.codeWith y cc maxL ret hh :: ws')
    (body : ∀ p e s m args below meth c s₁, BodyLoose p l y (headSpec ws rm) cc maxL ret e s m args below meth c s₁ → c.maxLocals = maxL → Pc args s →
      W p l e (headSpec ws rm).room s m args below meth c s.heap [] 0 0 (vx_MQ below Qc XC args s mc ms free) (entryFrame m args maxL)) : vx_Met l y ws rm Pc Qc XC mc ms free := by
  refine MetFree.of_bodyS (code := cc) (maxLocals := maxL) (ret := ret) hy ?_ ?_
  · intro args s m h hn
    obtain ⟨m9, meth, c, hn9, h1, h2, h3, h4, -, h5, h6, -⟩ := Cond.codeWith_spec (atoms_spec (ws := ws) h _ (by rw [hw]; exact List.mem_cons_self))
    cases hn.symm.trans hn9
    exact ⟨meth, c, h1, h2, h3, h4, h5, h6⟩
  · intro p e s m args below meth c s₁ B hml hP _
    have hh0 : s₁.heap = s.heap := by rw [B.state]; rfl
    obtain ⟨t, a1, o, b1, b2, b3⟩ := body p e s m args below meth c s₁ B hml hP s₁ hh0 (Stand.of_body B)
    exact ⟨t, o, a1, b1, b2, b3⟩
/-! ===== END ===== -/
end
section
/-! ===== BEGIN printed: names, fields, word lists, decode rows ===== -/
def RX0 : String := "ScreenDesk$Cursor"
def TX0 : u_T := fun k => match k with
  | 0 => ("ScreenDesk$Cursor", "row", "I", false)
  | 1 => ("ScreenDesk$Cursor", "column", "I", false)
  | 2 => ("ScreenDesk$Cursor", "full", "Z", false)
  | 3 => ("ScreenDesk$Cursor", "pen", "I", false)
  | _ => ("ScreenDesk$Cursor", "origin", "Z", false)
def tyX0 : Nat → FieldType := fun k => match k with
  | 0 => .int
  | 1 => .int
  | 2 => .boolean
  | 3 => .int
  | _ => .boolean
abbrev wsX00 : List Cond := u_ws RX0 TX0 5
theorem nmX0 : ∀ a, a < 5 → ∀ b, b < 5 → a ≠ b → (TX0 a).2.1 ≠ (TX0 b).2.1 := by decide +kernel
theorem tyX0_ok : ∀ k, k < 5 → parseFieldDescriptor (TX0 k).2.2.1 = some (tyX0 k) := by decide +kernel
abbrev cX0_init : ByteArray := prog_2_method_1_code
def yX0_init : MethodName := ⟨RX0, "<init>", "()V"⟩
abbrev cX0_reset : ByteArray := prog_2_method_2_code
def yX0_reset : MethodName := ⟨RX0, "reset", "()V"⟩
abbrev cX0_copyFrom : ByteArray := prog_2_method_3_code
def yX0_copyFrom : MethodName := ⟨RX0, "copyFrom", "(LScreenDesk$Cursor;)V"⟩
abbrev cX0_place : ByteArray := prog_2_method_4_code
def yX0_place : MethodName := ⟨RX0, "place", "(II)V"⟩
abbrev cX0_paint : ByteArray := prog_2_method_5_code
def yX0_paint : MethodName := ⟨RX0, "paint", "(I)V"⟩
abbrev cX0_paintColour : ByteArray := prog_2_method_6_code
def yX0_paintColour : MethodName := ⟨RX0, "paintColour", "(I)V"⟩
abbrev cX0_setColour : ByteArray := prog_2_method_7_code
def yX0_setColour : MethodName := ⟨RX0, "setColour", "(I)V"⟩
abbrev cX0_setGround : ByteArray := prog_2_method_8_code
def yX0_setGround : MethodName := ⟨RX0, "setGround", "(I)V"⟩
def RX1 : String := "ScreenDesk$Letter"
def TX1 : u_T := fun k => match k with
  | 0 => ("ScreenDesk$Letter", "missing", "I", false)
  | 1 => ("ScreenDesk$Letter", "bits", "I", false)
  | _ => ("ScreenDesk$Letter", "least", "I", false)
def tyX1 : Nat → FieldType := fun k => match k with
  | 0 => .int
  | 1 => .int
  | _ => .int
abbrev wsX10 : List Cond := u_ws RX1 TX1 3
theorem nmX1 : ∀ a, a < 3 → ∀ b, b < 3 → a ≠ b → (TX1 a).2.1 ≠ (TX1 b).2.1 := by decide +kernel
theorem tyX1_ok : ∀ k, k < 3 → parseFieldDescriptor (TX1 k).2.2.1 = some (tyX1 k) := by decide +kernel
abbrev cX1_init : ByteArray := prog_3_method_1_code
def yX1_init : MethodName := ⟨RX1, "<init>", "()V"⟩
abbrev cX1_drop : ByteArray := prog_3_method_2_code
def yX1_drop : MethodName := ⟨RX1, "drop", "()V"⟩
abbrev cX1_begin : ByteArray := prog_3_method_3_code
def yX1_begin : MethodName := ⟨RX1, "begin", "(I)V"⟩
abbrev cX1_start : ByteArray := prog_3_method_4_code
def yX1_start : MethodName := ⟨RX1, "start", "(III)V"⟩
abbrev cX1_add : ByteArray := prog_3_method_5_code
def yX1_add : MethodName := ⟨RX1, "add", "(I)V"⟩
abbrev cX1_whole : ByteArray := prog_3_method_6_code
def yX1_whole : MethodName := ⟨RX1, "whole", "()I"⟩
def RX2 : String := "ScreenDesk$Numbers"
def TX2 : u_T := fun k => match k with
  | 0 => ("ScreenDesk$Numbers", "values", "[I", true)
  | 1 => ("ScreenDesk$Numbers", "begun", "I", false)
  | _ => ("ScreenDesk$Numbers", "secret", "Z", false)
def tyX2 : Nat → FieldType := fun k => match k with
  | 0 => .array .int
  | 1 => .int
  | _ => .boolean
abbrev wsX20 : List Cond := u_ws RX2 TX2 3
theorem nmX2 : ∀ a, a < 3 → ∀ b, b < 3 → a ≠ b → (TX2 a).2.1 ≠ (TX2 b).2.1 := by decide +kernel
theorem tyX2_ok : ∀ k, k < 3 → parseFieldDescriptor (TX2 k).2.2.1 = some (tyX2 k) := by decide +kernel
abbrev cX2_init : ByteArray := prog_4_method_1_code
def yX2_init : MethodName := ⟨RX2, "<init>", "()V"⟩
abbrev cX2_begin : ByteArray := prog_4_method_2_code
def yX2_begin : MethodName := ⟨RX2, "begin", "()V"⟩
abbrev cX2_isUntouched : ByteArray := prog_4_method_3_code
def yX2_isUntouched : MethodName := ⟨RX2, "isUntouched", "()Z"⟩
abbrev cX2_addDigit : ByteArray := prog_4_method_4_code
def yX2_addDigit : MethodName := ⟨RX2, "addDigit", "(I)V"⟩
abbrev cX2_next : ByteArray := prog_4_method_5_code
def yX2_next : MethodName := ⟨RX2, "next", "()V"⟩
abbrev cX2_kept : ByteArray := prog_4_method_6_code
def yX2_kept : MethodName := ⟨RX2, "kept", "()I"⟩
abbrev cX2_valueAt : ByteArray := prog_4_method_7_code
def yX2_valueAt : MethodName := ⟨RX2, "valueAt", "(I)I"⟩
def RX3 : String := "ScreenDesk$Page"
def TX3 : u_T := fun k => match k with
  | 0 => ("ScreenDesk$Page", "codes", "[I", true)
  | _ => ("ScreenDesk$Page", "looks", "[I", true)
def tyX3 : Nat → FieldType := fun k => match k with
  | 0 => .array .int
  | _ => .array .int
abbrev wsX30 : List Cond := u_ws RX3 TX3 2
theorem nmX3 : ∀ a, a < 2 → ∀ b, b < 2 → a ≠ b → (TX3 a).2.1 ≠ (TX3 b).2.1 := by decide +kernel
theorem tyX3_ok : ∀ k, k < 2 → parseFieldDescriptor (TX3 k).2.2.1 = some (tyX3 k) := by decide +kernel
abbrev cX3_init : ByteArray := prog_5_method_1_code
def yX3_init : MethodName := ⟨RX3, "<init>", "()V"⟩
abbrev cX3_put : ByteArray := prog_5_method_2_code
def yX3_put : MethodName := ⟨RX3, "put", "(III)V"⟩
abbrev cX3_clear : ByteArray := prog_5_method_3_code
def yX3_clear : MethodName := ⟨RX3, "clear", "(II)V"⟩
abbrev cX3_pull : ByteArray := prog_5_method_4_code
def yX3_pull : MethodName := ⟨RX3, "pull", "(III)V"⟩
abbrev cX3_push : ByteArray := prog_5_method_5_code
def yX3_push : MethodName := ⟨RX3, "push", "(III)V"⟩
abbrev cX3_count : ByteArray := prog_5_method_6_code
def yX3_count : MethodName := ⟨RX3, "count", "(II)I"⟩
def RX4 : String := "ScreenDesk$Replies"
def TX4 : u_T := fun k => match k with
  | 0 => ("ScreenDesk$Replies", "bytes", "[I", true)
  | _ => ("ScreenDesk$Replies", "held", "I", false)
def tyX4 : Nat → FieldType := fun k => match k with
  | 0 => .array .int
  | _ => .int
abbrev wsX40 : List Cond := u_ws RX4 TX4 2
theorem nmX4 : ∀ a, a < 2 → ∀ b, b < 2 → a ≠ b → (TX4 a).2.1 ≠ (TX4 b).2.1 := by decide +kernel
theorem tyX4_ok : ∀ k, k < 2 → parseFieldDescriptor (TX4 k).2.2.1 = some (tyX4 k) := by decide +kernel
abbrev cX4_init : ByteArray := prog_6_method_1_code
def yX4_init : MethodName := ⟨RX4, "<init>", "()V"⟩
abbrev cX4_clear : ByteArray := prog_6_method_2_code
def yX4_clear : MethodName := ⟨RX4, "clear", "()V"⟩
abbrev cX4_addWell : ByteArray := prog_6_method_3_code
def yX4_addWell : MethodName := ⟨RX4, "addWell", "()V"⟩
abbrev cX4_addPosition : ByteArray := prog_6_method_4_code
def yX4_addPosition : MethodName := ⟨RX4, "addPosition", "(II)V"⟩
abbrev cX4_takeFirst : ByteArray := prog_6_method_5_code
def yX4_takeFirst : MethodName := ⟨RX4, "takeFirst", "()I"⟩
abbrev cX4_hasRoom : ByteArray := prog_6_method_6_code
def yX4_hasRoom : MethodName := ⟨RX4, "hasRoom", "(I)Z"⟩
abbrev cX4_add : ByteArray := prog_6_method_7_code
def yX4_add : MethodName := ⟨RX4, "add", "(I)V"⟩
def RX5 : String := "ScreenDesk$Screen"
def TX5 : u_T := fun k => match k with
  | 0 => ("ScreenDesk$Screen", "firstPage", "LScreenDesk$Page;", true)
  | 1 => ("ScreenDesk$Screen", "secondPage", "LScreenDesk$Page;", true)
  | 2 => ("ScreenDesk$Screen", "cursor", "LScreenDesk$Cursor;", true)
  | 3 => ("ScreenDesk$Screen", "saved", "LScreenDesk$Cursor;", true)
  | 4 => ("ScreenDesk$Screen", "top", "I", false)
  | 5 => ("ScreenDesk$Screen", "bottom", "I", false)
  | 6 => ("ScreenDesk$Screen", "tabStops", "I", false)
  | 7 => ("ScreenDesk$Screen", "insert", "Z", false)
  | 8 => ("ScreenDesk$Screen", "wrap", "Z", false)
  | 9 => ("ScreenDesk$Screen", "secondShown", "Z", false)
  | 10 => ("ScreenDesk$Screen", "bellsRung", "I", false)
  | _ => ("ScreenDesk$Screen", "lastCode", "I", false)
def tyX5 : Nat → FieldType := fun k => match k with
  | 0 => .object "ScreenDesk$Page"
  | 1 => .object "ScreenDesk$Page"
  | 2 => .object "ScreenDesk$Cursor"
  | 3 => .object "ScreenDesk$Cursor"
  | 4 => .int
  | 5 => .int
  | 6 => .int
  | 7 => .boolean
  | 8 => .boolean
  | 9 => .boolean
  | 10 => .int
  | _ => .int
abbrev wsX50 : List Cond := u_ws RX5 TX5 12
theorem nmX5 : ∀ a, a < 12 → ∀ b, b < 12 → a ≠ b → (TX5 a).2.1 ≠ (TX5 b).2.1 := by decide +kernel
theorem tyX5_ok : ∀ k, k < 12 → parseFieldDescriptor (TX5 k).2.2.1 = some (tyX5 k) := by decide +kernel
abbrev cX5_init : ByteArray := prog_7_method_1_code
def yX5_init : MethodName := ⟨RX5, "<init>", "()V"⟩
abbrev cX5_reset : ByteArray := prog_7_method_2_code
def yX5_reset : MethodName := ⟨RX5, "reset", "()V"⟩
abbrev cX5_page : ByteArray := prog_7_method_3_code
def yX5_page : MethodName := ⟨RX5, "page", "()LScreenDesk$Page;"⟩
abbrev cX5_save : ByteArray := prog_7_method_4_code
def yX5_save : MethodName := ⟨RX5, "save", "()V"⟩
abbrev cX5_restore : ByteArray := prog_7_method_5_code
def yX5_restore : MethodName := ⟨RX5, "restore", "()V"⟩
abbrev cX5_print : ByteArray := prog_7_method_6_code
def yX5_print : MethodName := ⟨RX5, "print", "(I)V"⟩
abbrev cX5_repeat : ByteArray := prog_7_method_7_code
def yX5_repeat : MethodName := ⟨RX5, "repeat", "(I)V"⟩
abbrev cX5_feedRow : ByteArray := prog_7_method_8_code
def yX5_feedRow : MethodName := ⟨RX5, "feedRow", "()V"⟩
abbrev cX5_backRow : ByteArray := prog_7_method_9_code
def yX5_backRow : MethodName := ⟨RX5, "backRow", "()V"⟩
abbrev cX5_scrollUp : ByteArray := prog_7_method_10_code
def yX5_scrollUp : MethodName := ⟨RX5, "scrollUp", "(I)V"⟩
abbrev cX5_scrollDown : ByteArray := prog_7_method_11_code
def yX5_scrollDown : MethodName := ⟨RX5, "scrollDown", "(I)V"⟩
abbrev cX5_putInRows : ByteArray := prog_7_method_12_code
def yX5_putInRows : MethodName := ⟨RX5, "putInRows", "(I)V"⟩
abbrev cX5_takeOutRows : ByteArray := prog_7_method_13_code
def yX5_takeOutRows : MethodName := ⟨RX5, "takeOutRows", "(I)V"⟩
abbrev cX5_putInCells : ByteArray := prog_7_method_14_code
def yX5_putInCells : MethodName := ⟨RX5, "putInCells", "(I)V"⟩
abbrev cX5_takeOutCells : ByteArray := prog_7_method_15_code
def yX5_takeOutCells : MethodName := ⟨RX5, "takeOutCells", "(I)V"⟩
abbrev cX5_clearCells : ByteArray := prog_7_method_16_code
def yX5_clearCells : MethodName := ⟨RX5, "clearCells", "(I)V"⟩
abbrev cX5_clearInPage : ByteArray := prog_7_method_17_code
def yX5_clearInPage : MethodName := ⟨RX5, "clearInPage", "(I)V"⟩
abbrev cX5_clearInRow : ByteArray := prog_7_method_18_code
def yX5_clearInRow : MethodName := ⟨RX5, "clearInRow", "(I)V"⟩
abbrev cX5_clearWithin : ByteArray := prog_7_method_19_code
def yX5_clearWithin : MethodName := ⟨RX5, "clearWithin", "(III)V"⟩
abbrev cX5_moveUp : ByteArray := prog_7_method_20_code
def yX5_moveUp : MethodName := ⟨RX5, "moveUp", "(I)V"⟩
abbrev cX5_moveDown : ByteArray := prog_7_method_21_code
def yX5_moveDown : MethodName := ⟨RX5, "moveDown", "(I)V"⟩
abbrev cX5_moveLeft : ByteArray := prog_7_method_22_code
def yX5_moveLeft : MethodName := ⟨RX5, "moveLeft", "(I)V"⟩
abbrev cX5_moveRight : ByteArray := prog_7_method_23_code
def yX5_moveRight : MethodName := ⟨RX5, "moveRight", "(I)V"⟩
abbrev cX5_moveToColumn : ByteArray := prog_7_method_24_code
def yX5_moveToColumn : MethodName := ⟨RX5, "moveToColumn", "(I)V"⟩
abbrev cX5_moveToRow : ByteArray := prog_7_method_25_code
def yX5_moveToRow : MethodName := ⟨RX5, "moveToRow", "(I)V"⟩
abbrev cX5_moveTo : ByteArray := prog_7_method_26_code
def yX5_moveTo : MethodName := ⟨RX5, "moveTo", "(II)V"⟩
abbrev cX5_moveToTabStop : ByteArray := prog_7_method_27_code
def yX5_moveToTabStop : MethodName := ⟨RX5, "moveToTabStop", "()V"⟩
abbrev cX5_hasTabStop : ByteArray := prog_7_method_28_code
def yX5_hasTabStop : MethodName := ⟨RX5, "hasTabStop", "(I)Z"⟩
abbrev cX5_setTabStop : ByteArray := prog_7_method_29_code
def yX5_setTabStop : MethodName := ⟨RX5, "setTabStop", "()V"⟩
abbrev cX5_removeTabStops : ByteArray := prog_7_method_30_code
def yX5_removeTabStops : MethodName := ⟨RX5, "removeTabStops", "(I)V"⟩
abbrev cX5_setRegion : ByteArray := prog_7_method_31_code
def yX5_setRegion : MethodName := ⟨RX5, "setRegion", "(II)V"⟩
abbrev cX5_switchPrivate : ByteArray := prog_7_method_32_code
def yX5_switchPrivate : MethodName := ⟨RX5, "switchPrivate", "(IZ)V"⟩
abbrev cX5_showPage : ByteArray := prog_7_method_33_code
def yX5_showPage : MethodName := ⟨RX5, "showPage", "(Z)V"⟩
abbrev cX5_rowToTell : ByteArray := prog_7_method_34_code
def yX5_rowToTell : MethodName := ⟨RX5, "rowToTell", "()I"⟩
abbrev cX5_isInRegion : ByteArray := prog_7_method_35_code
def yX5_isInRegion : MethodName := ⟨RX5, "isInRegion", "()Z"⟩
abbrev cX5_cell : ByteArray := prog_7_method_36_code
def yX5_cell : MethodName := ⟨RX5, "cell", "()I"⟩
abbrev cX5_rowStart : ByteArray := prog_7_method_37_code
def yX5_rowStart : MethodName := ⟨RX5, "rowStart", "()I"⟩
abbrev cX5_rowEnd : ByteArray := prog_7_method_38_code
def yX5_rowEnd : MethodName := ⟨RX5, "rowEnd", "()I"⟩
abbrev cX5_regionStart : ByteArray := prog_7_method_39_code
def yX5_regionStart : MethodName := ⟨RX5, "regionStart", "()I"⟩
abbrev cX5_regionEnd : ByteArray := prog_7_method_40_code
def yX5_regionEnd : MethodName := ⟨RX5, "regionEnd", "()I"⟩
def RX6 : String := "ScreenDesk$Text"
def TX6 : u_T := fun k => match k with
  | 0 => ("ScreenDesk$Text", "characters", "[I", true)
  | _ => ("ScreenDesk$Text", "length", "I", false)
def tyX6 : Nat → FieldType := fun k => match k with
  | 0 => .array .int
  | _ => .int
abbrev wsX60 : List Cond := u_ws RX6 TX6 2
theorem nmX6 : ∀ a, a < 2 → ∀ b, b < 2 → a ≠ b → (TX6 a).2.1 ≠ (TX6 b).2.1 := by decide +kernel
theorem tyX6_ok : ∀ k, k < 2 → parseFieldDescriptor (TX6 k).2.2.1 = some (tyX6 k) := by decide +kernel
abbrev cX6_init : ByteArray := prog_8_method_1_code
def yX6_init : MethodName := ⟨RX6, "<init>", "()V"⟩
abbrev cX6_clear : ByteArray := prog_8_method_2_code
def yX6_clear : MethodName := ⟨RX6, "clear", "()V"⟩
abbrev cX6_add : ByteArray := prog_8_method_3_code
def yX6_add : MethodName := ⟨RX6, "add", "(I)V"⟩
abbrev cX6_copyFrom : ByteArray := prog_8_method_4_code
def yX6_copyFrom : MethodName := ⟨RX6, "copyFrom", "(LScreenDesk$Text;)V"⟩
abbrev cX6_characterAt : ByteArray := prog_8_method_5_code
def yX6_characterAt : MethodName := ⟨RX6, "characterAt", "(I)I"⟩
def RX7 : String := "ScreenDesk"
def TX7 : u_T := fun k => match k with
  | 0 => ("ScreenDesk", "screen", "LScreenDesk$Screen;", true)
  | 1 => ("ScreenDesk", "letter", "LScreenDesk$Letter;", true)
  | 2 => ("ScreenDesk", "numbers", "LScreenDesk$Numbers;", true)
  | 3 => ("ScreenDesk", "name", "LScreenDesk$Text;", true)
  | 4 => ("ScreenDesk", "collected", "LScreenDesk$Text;", true)
  | 5 => ("ScreenDesk", "replies", "LScreenDesk$Replies;", true)
  | _ => ("ScreenDesk", "stage", "I", false)
def tyX7 : Nat → FieldType := fun k => match k with
  | 0 => .object "ScreenDesk$Screen"
  | 1 => .object "ScreenDesk$Letter"
  | 2 => .object "ScreenDesk$Numbers"
  | 3 => .object "ScreenDesk$Text"
  | 4 => .object "ScreenDesk$Text"
  | 5 => .object "ScreenDesk$Replies"
  | _ => .int
abbrev wsX70 : List Cond := u_ws RX7 TX7 7
theorem nmX7 : ∀ a, a < 7 → ∀ b, b < 7 → a ≠ b → (TX7 a).2.1 ≠ (TX7 b).2.1 := by decide +kernel
theorem tyX7_ok : ∀ k, k < 7 → parseFieldDescriptor (TX7 k).2.2.1 = some (tyX7 k) := by decide +kernel
abbrev cX7_init : ByteArray := prog_1_method_1_code
def yX7_init : MethodName := ⟨RX7, "<init>", "()V"⟩
abbrev cX7_feed : ByteArray := prog_1_method_2_code
def yX7_feed : MethodName := ⟨RX7, "feed", "(I)Z"⟩
abbrev cX7_feedAll : ByteArray := prog_1_method_3_code
def yX7_feedAll : MethodName := ⟨RX7, "feedAll", "(J)I"⟩
abbrev cX7_row : ByteArray := prog_1_method_4_code
def yX7_row : MethodName := ⟨RX7, "row", "()I"⟩
abbrev cX7_column : ByteArray := prog_1_method_5_code
def yX7_column : MethodName := ⟨RX7, "column", "()I"⟩
abbrev cX7_full : ByteArray := prog_1_method_6_code
def yX7_full : MethodName := ⟨RX7, "full", "()Z"⟩
abbrev cX7_pen : ByteArray := prog_1_method_7_code
def yX7_pen : MethodName := ⟨RX7, "pen", "()I"⟩
abbrev cX7_mode : ByteArray := prog_1_method_8_code
def yX7_mode : MethodName := ⟨RX7, "mode", "(I)I"⟩
abbrev cX7_region : ByteArray := prog_1_method_9_code
def yX7_region : MethodName := ⟨RX7, "region", "()I"⟩
abbrev cX7_tab : ByteArray := prog_1_method_10_code
def yX7_tab : MethodName := ⟨RX7, "tab", "(I)Z"⟩
abbrev cX7_bells : ByteArray := prog_1_method_11_code
def yX7_bells : MethodName := ⟨RX7, "bells", "()I"⟩
abbrev cX7_state : ByteArray := prog_1_method_12_code
def yX7_state : MethodName := ⟨RX7, "state", "()I"⟩
abbrev cX7_code : ByteArray := prog_1_method_13_code
def yX7_code : MethodName := ⟨RX7, "code", "(II)I"⟩
abbrev cX7_look : ByteArray := prog_1_method_14_code
def yX7_look : MethodName := ⟨RX7, "look", "(II)I"⟩
abbrev cX7_cells : ByteArray := prog_1_method_15_code
def yX7_cells : MethodName := ⟨RX7, "cells", "(II)I"⟩
abbrev cX7_waiting : ByteArray := prog_1_method_16_code
def yX7_waiting : MethodName := ⟨RX7, "waiting", "()I"⟩
abbrev cX7_reply : ByteArray := prog_1_method_17_code
def yX7_reply : MethodName := ⟨RX7, "reply", "()I"⟩
abbrev cX7_title : ByteArray := prog_1_method_18_code
def yX7_title : MethodName := ⟨RX7, "title", "(I)I"⟩
abbrev cX7_isCell : ByteArray := prog_1_method_19_code
def yX7_isCell : MethodName := ⟨RX7, "isCell", "(II)Z"⟩
abbrev cX7_reset : ByteArray := prog_1_method_20_code
def yX7_reset : MethodName := ⟨RX7, "reset", "()V"⟩
abbrev cX7_take : ByteArray := prog_1_method_21_code
def yX7_take : MethodName := ⟨RX7, "take", "(I)V"⟩
abbrev cX7_takeFurther : ByteArray := prog_1_method_22_code
def yX7_takeFurther : MethodName := ⟨RX7, "takeFurther", "(I)V"⟩
abbrev cX7_takeInGround : ByteArray := prog_1_method_23_code
def yX7_takeInGround : MethodName := ⟨RX7, "takeInGround", "(I)V"⟩
abbrev cX7_control : ByteArray := prog_1_method_24_code
def yX7_control : MethodName := ⟨RX7, "control", "(I)V"⟩
abbrev cX7_takeInEscape : ByteArray := prog_1_method_25_code
def yX7_takeInEscape : MethodName := ⟨RX7, "takeInEscape", "(I)V"⟩
abbrev cX7_takeBeforeEnd : ByteArray := prog_1_method_26_code
def yX7_takeBeforeEnd : MethodName := ⟨RX7, "takeBeforeEnd", "(I)V"⟩
abbrev cX7_takeInTitle : ByteArray := prog_1_method_27_code
def yX7_takeInTitle : MethodName := ⟨RX7, "takeInTitle", "(I)V"⟩
abbrev cX7_doSequence : ByteArray := prog_1_method_28_code
def yX7_doSequence : MethodName := ⟨RX7, "doSequence", "(I)V"⟩
abbrev cX7_doPrivate : ByteArray := prog_1_method_29_code
def yX7_doPrivate : MethodName := ⟨RX7, "doPrivate", "(I)V"⟩
abbrev cX7_paintAll : ByteArray := prog_1_method_30_code
def yX7_paintAll : MethodName := ⟨RX7, "paintAll", "()V"⟩
abbrev cX7_switchInsert : ByteArray := prog_1_method_31_code
def yX7_switchInsert : MethodName := ⟨RX7, "switchInsert", "(Z)V"⟩
abbrev cX7_answer : ByteArray := prog_1_method_32_code
def yX7_answer : MethodName := ⟨RX7, "answer", "(I)V"⟩
def RX8 : String := "ScreenDeskModel"
def TX8 : u_T := fun k => match k with
  | 0 => ("ScreenDeskModel", "codes", "[I", true)
  | 1 => ("ScreenDeskModel", "looks", "[I", true)
  | 2 => ("ScreenDeskModel", "copyCodes", "[I", true)
  | 3 => ("ScreenDeskModel", "copyLooks", "[I", true)
  | 4 => ("ScreenDeskModel", "page", "I", false)
  | 5 => ("ScreenDeskModel", "row", "I", false)
  | 6 => ("ScreenDeskModel", "column", "I", false)
  | 7 => ("ScreenDeskModel", "top", "I", false)
  | 8 => ("ScreenDeskModel", "bottom", "I", false)
  | 9 => ("ScreenDeskModel", "full", "Z", false)
  | 10 => ("ScreenDeskModel", "insert", "Z", false)
  | 11 => ("ScreenDeskModel", "origin", "Z", false)
  | 12 => ("ScreenDeskModel", "wrap", "Z", false)
  | 13 => ("ScreenDeskModel", "bold", "I", false)
  | 14 => ("ScreenDeskModel", "under", "I", false)
  | 15 => ("ScreenDeskModel", "reverse", "I", false)
  | 16 => ("ScreenDeskModel", "colour", "I", false)
  | 17 => ("ScreenDeskModel", "ground", "I", false)
  | 18 => ("ScreenDeskModel", "savedRow", "I", false)
  | 19 => ("ScreenDeskModel", "savedColumn", "I", false)
  | 20 => ("ScreenDeskModel", "savedPen", "I", false)
  | 21 => ("ScreenDeskModel", "savedFull", "Z", false)
  | 22 => ("ScreenDeskModel", "savedOrigin", "Z", false)
  | 23 => ("ScreenDeskModel", "stops", "[Z", true)
  | 24 => ("ScreenDeskModel", "state", "I", false)
  | 25 => ("ScreenDeskModel", "printed", "I", false)
  | 26 => ("ScreenDeskModel", "bells", "I", false)
  | 27 => ("ScreenDeskModel", "replies", "[I", true)
  | 28 => ("ScreenDeskModel", "waits", "I", false)
  | 29 => ("ScreenDeskModel", "title", "[I", true)
  | 30 => ("ScreenDeskModel", "collected", "[I", true)
  | 31 => ("ScreenDeskModel", "titleSize", "I", false)
  | 32 => ("ScreenDeskModel", "collectedSize", "I", false)
  | 33 => ("ScreenDeskModel", "bytes", "I", false)
  | 34 => ("ScreenDeskModel", "there", "I", false)
  | 35 => ("ScreenDeskModel", "letter", "I", false)
  | 36 => ("ScreenDeskModel", "numbers", "[I", true)
  | 37 => ("ScreenDeskModel", "begun", "I", false)
  | 38 => ("ScreenDeskModel", "isPrivate", "Z", false)
  | _ => ("ScreenDeskModel", "thrown", "I", false)
def tyX8 : Nat → FieldType := fun k => match k with
  | 0 => .array .int
  | 1 => .array .int
  | 2 => .array .int
  | 3 => .array .int
  | 4 => .int
  | 5 => .int
  | 6 => .int
  | 7 => .int
  | 8 => .int
  | 9 => .boolean
  | 10 => .boolean
  | 11 => .boolean
  | 12 => .boolean
  | 13 => .int
  | 14 => .int
  | 15 => .int
  | 16 => .int
  | 17 => .int
  | 18 => .int
  | 19 => .int
  | 20 => .int
  | 21 => .boolean
  | 22 => .boolean
  | 23 => .array .boolean
  | 24 => .int
  | 25 => .int
  | 26 => .int
  | 27 => .array .int
  | 28 => .int
  | 29 => .array .int
  | 30 => .array .int
  | 31 => .int
  | 32 => .int
  | 33 => .int
  | 34 => .int
  | 35 => .int
  | 36 => .array .int
  | 37 => .int
  | 38 => .boolean
  | _ => .int
abbrev wsX80 : List Cond := u_ws RX8 TX8 40
theorem nmX8 : ∀ a, a < 40 → ∀ b, b < 40 → a ≠ b → (TX8 a).2.1 ≠ (TX8 b).2.1 := by decide +kernel
theorem tyX8_ok : ∀ k, k < 40 → parseFieldDescriptor (TX8 k).2.2.1 = some (tyX8 k) := by decide +kernel
abbrev cX8_init : ByteArray := prog_10_method_1_code
def yX8_init : MethodName := ⟨RX8, "<init>", "()V"⟩
abbrev cX8_thrown : ByteArray := prog_10_method_2_code
def yX8_thrown : MethodName := ⟨RX8, "thrown", "()I"⟩
abbrev cX8_first : ByteArray := prog_10_method_3_code
def yX8_first : MethodName := ⟨RX8, "first", "()V"⟩
abbrev cX8_blank : ByteArray := prog_10_method_4_code
def yX8_blank : MethodName := ⟨RX8, "blank", "(I)V"⟩
abbrev cX8_place : ByteArray := prog_10_method_5_code
def yX8_place : MethodName := ⟨RX8, "place", "(II)V"⟩
abbrev cX8_penNow : ByteArray := prog_10_method_6_code
def yX8_penNow : MethodName := ⟨RX8, "penNow", "()I"⟩
abbrev cX8_setPen : ByteArray := prog_10_method_7_code
def yX8_setPen : MethodName := ⟨RX8, "setPen", "(I)V"⟩
abbrev cX8_save : ByteArray := prog_10_method_8_code
def yX8_save : MethodName := ⟨RX8, "save", "()V"⟩
abbrev cX8_bring : ByteArray := prog_10_method_9_code
def yX8_bring : MethodName := ⟨RX8, "bring", "()V"⟩
abbrev cX8_remember : ByteArray := prog_10_method_10_code
def yX8_remember : MethodName := ⟨RX8, "remember", "()V"⟩
abbrev cX8_recall : ByteArray := prog_10_method_11_code
def yX8_recall : MethodName := ⟨RX8, "recall", "(II)V"⟩
abbrev cX8_shiftRows : ByteArray := prog_10_method_12_code
def yX8_shiftRows : MethodName := ⟨RX8, "shiftRows", "(II)V"⟩
abbrev cX8_shiftCells : ByteArray := prog_10_method_13_code
def yX8_shiftCells : MethodName := ⟨RX8, "shiftCells", "(I)V"⟩
abbrev cX8_clear : ByteArray := prog_10_method_14_code
def yX8_clear : MethodName := ⟨RX8, "clear", "(II)V"⟩
abbrev cX8_feeding : ByteArray := prog_10_method_15_code
def yX8_feeding : MethodName := ⟨RX8, "feeding", "()V"⟩
abbrev cX8_backing : ByteArray := prog_10_method_16_code
def yX8_backing : MethodName := ⟨RX8, "backing", "()V"⟩
abbrev cX8_print : ByteArray := prog_10_method_17_code
def yX8_print : MethodName := ⟨RX8, "print", "(I)V"⟩
abbrev cX8_feed : ByteArray := prog_10_method_18_code
def yX8_feed : MethodName := ⟨RX8, "feed", "(I)Z"⟩
abbrev cX8_feedAll : ByteArray := prog_10_method_19_code
def yX8_feedAll : MethodName := ⟨RX8, "feedAll", "(J)I"⟩
abbrev cX8_take : ByteArray := prog_10_method_20_code
def yX8_take : MethodName := ⟨RX8, "take", "(I)V"⟩
abbrev cX8_sequenceByte : ByteArray := prog_10_method_21_code
def yX8_sequenceByte : MethodName := ⟨RX8, "sequenceByte", "(I)V"⟩
abbrev cX8_further : ByteArray := prog_10_method_22_code
def yX8_further : MethodName := ⟨RX8, "further", "(I)V"⟩
abbrev cX8_letterByte : ByteArray := prog_10_method_23_code
def yX8_letterByte : MethodName := ⟨RX8, "letterByte", "(I)V"⟩
abbrev cX8_control : ByteArray := prog_10_method_24_code
def yX8_control : MethodName := ⟨RX8, "control", "(I)V"⟩
abbrev cX8_titleByte : ByteArray := prog_10_method_25_code
def yX8_titleByte : MethodName := ⟨RX8, "titleByte", "(I)V"⟩
abbrev cX8_escape : ByteArray := prog_10_method_26_code
def yX8_escape : MethodName := ⟨RX8, "escape", "(I)V"⟩
abbrev cX8_sequence : ByteArray := prog_10_method_27_code
def yX8_sequence : MethodName := ⟨RX8, "sequence", "(I)V"⟩
abbrev cX8_kept : ByteArray := prog_10_method_28_code
def yX8_kept : MethodName := ⟨RX8, "kept", "()I"⟩
abbrev cX8_privately : ByteArray := prog_10_method_29_code
def yX8_privately : MethodName := ⟨RX8, "privately", "(I)V"⟩
abbrev cX8_atMost : ByteArray := prog_10_method_30_code
def yX8_atMost : MethodName := ⟨RX8, "atMost", "(II)I"⟩
abbrev cX8_atLeast : ByteArray := prog_10_method_31_code
def yX8_atLeast : MethodName := ⟨RX8, "atLeast", "(II)I"⟩
abbrev cX8_home : ByteArray := prog_10_method_32_code
def yX8_home : MethodName := ⟨RX8, "home", "(II)V"⟩
abbrev cX8_above : ByteArray := prog_10_method_33_code
def yX8_above : MethodName := ⟨RX8, "above", "(I)I"⟩
abbrev cX8_below : ByteArray := prog_10_method_34_code
def yX8_below : MethodName := ⟨RX8, "below", "(I)I"⟩
abbrev cX8_doIt : ByteArray := prog_10_method_35_code
def yX8_doIt : MethodName := ⟨RX8, "doIt", "(II)V"⟩
abbrev cX8_change : ByteArray := prog_10_method_36_code
def yX8_change : MethodName := ⟨RX8, "change", "(II)V"⟩
abbrev cX8_set : ByteArray := prog_10_method_37_code
def yX8_set : MethodName := ⟨RX8, "set", "(II)V"⟩
abbrev cX8_dip : ByteArray := prog_10_method_38_code
def yX8_dip : MethodName := ⟨RX8, "dip", "(I)V"⟩
abbrev cX8_answer : ByteArray := prog_10_method_39_code
def yX8_answer : MethodName := ⟨RX8, "answer", "(I)V"⟩
abbrev cX8_put : ByteArray := prog_10_method_40_code
def yX8_put : MethodName := ⟨RX8, "put", "(I)V"⟩
abbrev cX8_row : ByteArray := prog_10_method_41_code
def yX8_row : MethodName := ⟨RX8, "row", "()I"⟩
abbrev cX8_column : ByteArray := prog_10_method_42_code
def yX8_column : MethodName := ⟨RX8, "column", "()I"⟩
abbrev cX8_full : ByteArray := prog_10_method_43_code
def yX8_full : MethodName := ⟨RX8, "full", "()Z"⟩
abbrev cX8_pen : ByteArray := prog_10_method_44_code
def yX8_pen : MethodName := ⟨RX8, "pen", "()I"⟩
abbrev cX8_mode : ByteArray := prog_10_method_45_code
def yX8_mode : MethodName := ⟨RX8, "mode", "(I)I"⟩
abbrev cX8_region : ByteArray := prog_10_method_46_code
def yX8_region : MethodName := ⟨RX8, "region", "()I"⟩
abbrev cX8_tab : ByteArray := prog_10_method_47_code
def yX8_tab : MethodName := ⟨RX8, "tab", "(I)Z"⟩
abbrev cX8_bells : ByteArray := prog_10_method_48_code
def yX8_bells : MethodName := ⟨RX8, "bells", "()I"⟩
abbrev cX8_state : ByteArray := prog_10_method_49_code
def yX8_state : MethodName := ⟨RX8, "state", "()I"⟩
abbrev cX8_isCell : ByteArray := prog_10_method_50_code
def yX8_isCell : MethodName := ⟨RX8, "isCell", "(II)Z"⟩
abbrev cX8_code : ByteArray := prog_10_method_51_code
def yX8_code : MethodName := ⟨RX8, "code", "(II)I"⟩
abbrev cX8_look : ByteArray := prog_10_method_52_code
def yX8_look : MethodName := ⟨RX8, "look", "(II)I"⟩
abbrev cX8_cells : ByteArray := prog_10_method_53_code
def yX8_cells : MethodName := ⟨RX8, "cells", "(II)I"⟩
abbrev cX8_waiting : ByteArray := prog_10_method_54_code
def yX8_waiting : MethodName := ⟨RX8, "waiting", "()I"⟩
abbrev cX8_reply : ByteArray := prog_10_method_55_code
def yX8_reply : MethodName := ⟨RX8, "reply", "()I"⟩
abbrev cX8_title : ByteArray := prog_10_method_56_code
def yX8_title : MethodName := ⟨RX8, "title", "(I)I"⟩
def RJ9 : String := "java/lang/Math"
def TJ9 : u_T := fun k => match k with
  | _ => ("", "", "", false)
def tyJ9 : Nat → FieldType := fun k => match k with
  | _ => .int
abbrev wsJ90 : List Cond := u_ws RJ9 TJ9 0
abbrev cJ9_max_7cf53 : ByteArray := prog_13_method_65_code
def yJ9_max_7cf53 : MethodName := ⟨RJ9, "max", "(II)I"⟩
abbrev cJ9_min_7cf53 : ByteArray := prog_13_method_69_code
def yJ9_min_7cf53 : MethodName := ⟨RJ9, "min", "(II)I"⟩
def RL : String := "ScreenDeskLaw"
abbrev cL_code : ByteArray := method_3_code
def yL_code : MethodName := ⟨RL, "code", "(LScreenDesk;II[J)I"⟩
abbrev cL_look : ByteArray := method_4_code
def yL_look : MethodName := ⟨RL, "look", "(LScreenDesk;II[J)I"⟩
abbrev cL_reply : ByteArray := method_5_code
def yL_reply : MethodName := ⟨RL, "reply", "(LScreenDesk;[J)I"⟩
abbrev cL_law : ByteArray := code
def yL_law : MethodName := ⟨RL, "law", "([I)Z"⟩
abbrev vwCl : List vw_C := [(RX0, TX0, 5), (RX1, TX1, 3), (RX2, TX2, 3), (RX3, TX3, 2), (RX4, TX4, 2), (RX5, TX5, 12), (RX6, TX6, 2), (RX7, TX7, 7), (RX8, TX8, 40)]
end
section
theorem dX0_init_0 : decode cX0_init 0 = .ok (.aload_n 0, 1) := by decide +kernel
theorem dX0_init_1 : decode cX0_init 1 = .ok (.invokespecial 3, 3) := by decide +kernel
theorem dX0_init_4 : decode cX0_init 4 = .ok (.return_, 1) := by decide +kernel
theorem dX0_reset_0 : decode cX0_reset 0 = .ok (.aload_n 0, 1) := by decide +kernel
theorem dX0_reset_1 : decode cX0_reset 1 = .ok (.iconst 0, 1) := by decide +kernel
theorem dX0_reset_2 : decode cX0_reset 2 = .ok (.iconst 0, 1) := by decide +kernel
theorem dX0_reset_3 : decode cX0_reset 3 = .ok (.invokevirtual 9, 3) := by decide +kernel
theorem dX0_reset_6 : decode cX0_reset 6 = .ok (.aload_n 0, 1) := by decide +kernel
theorem dX0_reset_7 : decode cX0_reset 7 = .ok (.iconst 0, 1) := by decide +kernel
theorem dX0_reset_8 : decode cX0_reset 8 = .ok (.putfield 15, 3) := by decide +kernel
theorem dX0_reset_11 : decode cX0_reset 11 = .ok (.aload_n 0, 1) := by decide +kernel
theorem dX0_reset_12 : decode cX0_reset 12 = .ok (.iconst 0, 1) := by decide +kernel
theorem dX0_reset_13 : decode cX0_reset 13 = .ok (.putfield 19, 3) := by decide +kernel
theorem dX0_reset_16 : decode cX0_reset 16 = .ok (.return_, 1) := by decide +kernel
theorem dX0_copyFrom_0 : decode cX0_copyFrom 0 = .ok (.aload_n 1, 1) := by decide +kernel
theorem dX0_copyFrom_1 : decode cX0_copyFrom 1 = .ok (.ifnonnull 4, 3) := by decide +kernel
theorem dX0_copyFrom_4 : decode cX0_copyFrom 4 = .ok (.return_, 1) := by decide +kernel
theorem dX0_copyFrom_5 : decode cX0_copyFrom 5 = .ok (.aload_n 0, 1) := by decide +kernel
theorem dX0_copyFrom_6 : decode cX0_copyFrom 6 = .ok (.aload_n 1, 1) := by decide +kernel
theorem dX0_copyFrom_7 : decode cX0_copyFrom 7 = .ok (.getfield 23, 3) := by decide +kernel
theorem dX0_copyFrom_10 : decode cX0_copyFrom 10 = .ok (.putfield 23, 3) := by decide +kernel
theorem dX0_copyFrom_13 : decode cX0_copyFrom 13 = .ok (.aload_n 0, 1) := by decide +kernel
theorem dX0_copyFrom_14 : decode cX0_copyFrom 14 = .ok (.aload_n 1, 1) := by decide +kernel
theorem dX0_copyFrom_15 : decode cX0_copyFrom 15 = .ok (.getfield 26, 3) := by decide +kernel
theorem dX0_copyFrom_18 : decode cX0_copyFrom 18 = .ok (.putfield 26, 3) := by decide +kernel
theorem dX0_copyFrom_21 : decode cX0_copyFrom 21 = .ok (.aload_n 0, 1) := by decide +kernel
theorem dX0_copyFrom_22 : decode cX0_copyFrom 22 = .ok (.aload_n 1, 1) := by decide +kernel
theorem dX0_copyFrom_23 : decode cX0_copyFrom 23 = .ok (.getfield 29, 3) := by decide +kernel
theorem dX0_copyFrom_26 : decode cX0_copyFrom 26 = .ok (.putfield 29, 3) := by decide +kernel
theorem dX0_copyFrom_29 : decode cX0_copyFrom 29 = .ok (.aload_n 0, 1) := by decide +kernel
theorem dX0_copyFrom_30 : decode cX0_copyFrom 30 = .ok (.aload_n 1, 1) := by decide +kernel
theorem dX0_copyFrom_31 : decode cX0_copyFrom 31 = .ok (.getfield 15, 3) := by decide +kernel
theorem dX0_copyFrom_34 : decode cX0_copyFrom 34 = .ok (.putfield 15, 3) := by decide +kernel
theorem dX0_copyFrom_37 : decode cX0_copyFrom 37 = .ok (.aload_n 0, 1) := by decide +kernel
theorem dX0_copyFrom_38 : decode cX0_copyFrom 38 = .ok (.aload_n 1, 1) := by decide +kernel
theorem dX0_copyFrom_39 : decode cX0_copyFrom 39 = .ok (.getfield 19, 3) := by decide +kernel
theorem dX0_copyFrom_42 : decode cX0_copyFrom 42 = .ok (.putfield 19, 3) := by decide +kernel
theorem dX0_copyFrom_45 : decode cX0_copyFrom 45 = .ok (.return_, 1) := by decide +kernel
theorem dX0_place_0 : decode cX0_place 0 = .ok (.aload_n 0, 1) := by decide +kernel
theorem dX0_place_1 : decode cX0_place 1 = .ok (.iload_n 1, 1) := by decide +kernel
theorem dX0_place_2 : decode cX0_place 2 = .ok (.putfield 23, 3) := by decide +kernel
theorem dX0_place_5 : decode cX0_place 5 = .ok (.aload_n 0, 1) := by decide +kernel
theorem dX0_place_6 : decode cX0_place 6 = .ok (.iload_n 2, 1) := by decide +kernel
theorem dX0_place_7 : decode cX0_place 7 = .ok (.putfield 26, 3) := by decide +kernel
theorem dX0_place_10 : decode cX0_place 10 = .ok (.aload_n 0, 1) := by decide +kernel
theorem dX0_place_11 : decode cX0_place 11 = .ok (.iconst 0, 1) := by decide +kernel
theorem dX0_place_12 : decode cX0_place 12 = .ok (.putfield 29, 3) := by decide +kernel
theorem dX0_place_15 : decode cX0_place 15 = .ok (.return_, 1) := by decide +kernel
theorem dX0_paint_0 : decode cX0_paint 0 = .ok (.iload_n 1, 1) := by decide +kernel
theorem dX0_paint_1 : decode cX0_paint 1 = .ok (.lookupswitch 188 #[(0, 83), (1, 91), (4, 104), (7, 117), (22, 130), (24, 144), (27, 158), (39, 172), (49, 180)], 83) := by decide +kernel
theorem dX0_paint_84 : decode cX0_paint 84 = .ok (.aload_n 0, 1) := by decide +kernel
theorem dX0_paint_85 : decode cX0_paint 85 = .ok (.iconst 0, 1) := by decide +kernel
theorem dX0_paint_86 : decode cX0_paint 86 = .ok (.putfield 15, 3) := by decide +kernel
theorem dX0_paint_89 : decode cX0_paint 89 = .ok (.goto 105, 3) := by decide +kernel
theorem dX0_paint_92 : decode cX0_paint 92 = .ok (.aload_n 0, 1) := by decide +kernel
theorem dX0_paint_93 : decode cX0_paint 93 = .ok (.dup, 1) := by decide +kernel
theorem dX0_paint_94 : decode cX0_paint 94 = .ok (.getfield 15, 3) := by decide +kernel
theorem dX0_paint_97 : decode cX0_paint 97 = .ok (.iconst 1, 1) := by decide +kernel
theorem dX0_paint_98 : decode cX0_paint 98 = .ok (.ior, 1) := by decide +kernel
theorem dX0_paint_99 : decode cX0_paint 99 = .ok (.putfield 15, 3) := by decide +kernel
theorem dX0_paint_102 : decode cX0_paint 102 = .ok (.goto 92, 3) := by decide +kernel
theorem dX0_paint_105 : decode cX0_paint 105 = .ok (.aload_n 0, 1) := by decide +kernel
theorem dX0_paint_106 : decode cX0_paint 106 = .ok (.dup, 1) := by decide +kernel
theorem dX0_paint_107 : decode cX0_paint 107 = .ok (.getfield 15, 3) := by decide +kernel
theorem dX0_paint_110 : decode cX0_paint 110 = .ok (.iconst 2, 1) := by decide +kernel
theorem dX0_paint_111 : decode cX0_paint 111 = .ok (.ior, 1) := by decide +kernel
theorem dX0_paint_112 : decode cX0_paint 112 = .ok (.putfield 15, 3) := by decide +kernel
theorem dX0_paint_115 : decode cX0_paint 115 = .ok (.goto 79, 3) := by decide +kernel
theorem dX0_paint_118 : decode cX0_paint 118 = .ok (.aload_n 0, 1) := by decide +kernel
theorem dX0_paint_119 : decode cX0_paint 119 = .ok (.dup, 1) := by decide +kernel
theorem dX0_paint_120 : decode cX0_paint 120 = .ok (.getfield 15, 3) := by decide +kernel
theorem dX0_paint_123 : decode cX0_paint 123 = .ok (.iconst 4, 1) := by decide +kernel
theorem dX0_paint_124 : decode cX0_paint 124 = .ok (.ior, 1) := by decide +kernel
theorem dX0_paint_125 : decode cX0_paint 125 = .ok (.putfield 15, 3) := by decide +kernel
theorem dX0_paint_128 : decode cX0_paint 128 = .ok (.goto 66, 3) := by decide +kernel
theorem dX0_paint_131 : decode cX0_paint 131 = .ok (.aload_n 0, 1) := by decide +kernel
theorem dX0_paint_132 : decode cX0_paint 132 = .ok (.dup, 1) := by decide +kernel
theorem dX0_paint_133 : decode cX0_paint 133 = .ok (.getfield 15, 3) := by decide +kernel
theorem dX0_paint_136 : decode cX0_paint 136 = .ok (.bipush (-2), 2) := by decide +kernel
theorem dX0_paint_138 : decode cX0_paint 138 = .ok (.iand, 1) := by decide +kernel
theorem dX0_paint_139 : decode cX0_paint 139 = .ok (.putfield 15, 3) := by decide +kernel
theorem dX0_paint_142 : decode cX0_paint 142 = .ok (.goto 52, 3) := by decide +kernel
theorem dX0_paint_145 : decode cX0_paint 145 = .ok (.aload_n 0, 1) := by decide +kernel
theorem dX0_paint_146 : decode cX0_paint 146 = .ok (.dup, 1) := by decide +kernel
theorem dX0_paint_147 : decode cX0_paint 147 = .ok (.getfield 15, 3) := by decide +kernel
theorem dX0_paint_150 : decode cX0_paint 150 = .ok (.bipush (-3), 2) := by decide +kernel
theorem dX0_paint_152 : decode cX0_paint 152 = .ok (.iand, 1) := by decide +kernel
theorem dX0_paint_153 : decode cX0_paint 153 = .ok (.putfield 15, 3) := by decide +kernel
theorem dX0_paint_156 : decode cX0_paint 156 = .ok (.goto 38, 3) := by decide +kernel
theorem dX0_paint_159 : decode cX0_paint 159 = .ok (.aload_n 0, 1) := by decide +kernel
theorem dX0_paint_160 : decode cX0_paint 160 = .ok (.dup, 1) := by decide +kernel
theorem dX0_paint_161 : decode cX0_paint 161 = .ok (.getfield 15, 3) := by decide +kernel
theorem dX0_paint_164 : decode cX0_paint 164 = .ok (.bipush (-5), 2) := by decide +kernel
theorem dX0_paint_166 : decode cX0_paint 166 = .ok (.iand, 1) := by decide +kernel
theorem dX0_paint_167 : decode cX0_paint 167 = .ok (.putfield 15, 3) := by decide +kernel
theorem dX0_paint_170 : decode cX0_paint 170 = .ok (.goto 24, 3) := by decide +kernel
theorem dX0_paint_173 : decode cX0_paint 173 = .ok (.aload_n 0, 1) := by decide +kernel
theorem dX0_paint_174 : decode cX0_paint 174 = .ok (.iconst 0, 1) := by decide +kernel
theorem dX0_paint_175 : decode cX0_paint 175 = .ok (.invokevirtual 32, 3) := by decide +kernel
theorem dX0_paint_178 : decode cX0_paint 178 = .ok (.goto 16, 3) := by decide +kernel
theorem dX0_paint_181 : decode cX0_paint 181 = .ok (.aload_n 0, 1) := by decide +kernel
theorem dX0_paint_182 : decode cX0_paint 182 = .ok (.iconst 0, 1) := by decide +kernel
theorem dX0_paint_183 : decode cX0_paint 183 = .ok (.invokevirtual 36, 3) := by decide +kernel
theorem dX0_paint_186 : decode cX0_paint 186 = .ok (.goto 8, 3) := by decide +kernel
theorem dX0_paint_189 : decode cX0_paint 189 = .ok (.aload_n 0, 1) := by decide +kernel
theorem dX0_paint_190 : decode cX0_paint 190 = .ok (.iload_n 1, 1) := by decide +kernel
theorem dX0_paint_191 : decode cX0_paint 191 = .ok (.invokevirtual 39, 3) := by decide +kernel
theorem dX0_paint_194 : decode cX0_paint 194 = .ok (.return_, 1) := by decide +kernel
theorem dX0_paintColour_0 : decode cX0_paintColour 0 = .ok (.iload_n 1, 1) := by decide +kernel
theorem dX0_paintColour_1 : decode cX0_paintColour 1 = .ok (.bipush 30, 2) := by decide +kernel
theorem dX0_paintColour_3 : decode cX0_paintColour 3 = .ok (.if_icmp .lt 20, 3) := by decide +kernel
theorem dX0_paintColour_6 : decode cX0_paintColour 6 = .ok (.iload_n 1, 1) := by decide +kernel
theorem dX0_paintColour_7 : decode cX0_paintColour 7 = .ok (.bipush 37, 2) := by decide +kernel
theorem dX0_paintColour_9 : decode cX0_paintColour 9 = .ok (.if_icmp .gt 14, 3) := by decide +kernel
theorem dX0_paintColour_12 : decode cX0_paintColour 12 = .ok (.aload_n 0, 1) := by decide +kernel
theorem dX0_paintColour_13 : decode cX0_paintColour 13 = .ok (.iload_n 1, 1) := by decide +kernel
theorem dX0_paintColour_14 : decode cX0_paintColour 14 = .ok (.bipush 29, 2) := by decide +kernel
theorem dX0_paintColour_16 : decode cX0_paintColour 16 = .ok (.isub, 1) := by decide +kernel
theorem dX0_paintColour_17 : decode cX0_paintColour 17 = .ok (.invokevirtual 32, 3) := by decide +kernel
theorem dX0_paintColour_20 : decode cX0_paintColour 20 = .ok (.goto 23, 3) := by decide +kernel
theorem dX0_paintColour_23 : decode cX0_paintColour 23 = .ok (.iload_n 1, 1) := by decide +kernel
theorem dX0_paintColour_24 : decode cX0_paintColour 24 = .ok (.bipush 40, 2) := by decide +kernel
theorem dX0_paintColour_26 : decode cX0_paintColour 26 = .ok (.if_icmp .lt 17, 3) := by decide +kernel
theorem dX0_paintColour_29 : decode cX0_paintColour 29 = .ok (.iload_n 1, 1) := by decide +kernel
theorem dX0_paintColour_30 : decode cX0_paintColour 30 = .ok (.bipush 47, 2) := by decide +kernel
theorem dX0_paintColour_32 : decode cX0_paintColour 32 = .ok (.if_icmp .gt 11, 3) := by decide +kernel
theorem dX0_paintColour_35 : decode cX0_paintColour 35 = .ok (.aload_n 0, 1) := by decide +kernel
theorem dX0_paintColour_36 : decode cX0_paintColour 36 = .ok (.iload_n 1, 1) := by decide +kernel
theorem dX0_paintColour_37 : decode cX0_paintColour 37 = .ok (.bipush 39, 2) := by decide +kernel
theorem dX0_paintColour_39 : decode cX0_paintColour 39 = .ok (.isub, 1) := by decide +kernel
theorem dX0_paintColour_40 : decode cX0_paintColour 40 = .ok (.invokevirtual 36, 3) := by decide +kernel
theorem dX0_paintColour_43 : decode cX0_paintColour 43 = .ok (.return_, 1) := by decide +kernel
theorem dX0_setColour_0 : decode cX0_setColour 0 = .ok (.aload_n 0, 1) := by decide +kernel
theorem dX0_setColour_1 : decode cX0_setColour 1 = .ok (.aload_n 0, 1) := by decide +kernel
theorem dX0_setColour_2 : decode cX0_setColour 2 = .ok (.getfield 15, 3) := by decide +kernel
theorem dX0_setColour_5 : decode cX0_setColour 5 = .ok (.bipush (-121), 2) := by decide +kernel
theorem dX0_setColour_7 : decode cX0_setColour 7 = .ok (.iand, 1) := by decide +kernel
theorem dX0_setColour_8 : decode cX0_setColour 8 = .ok (.iload_n 1, 1) := by decide +kernel
theorem dX0_setColour_9 : decode cX0_setColour 9 = .ok (.bipush 8, 2) := by decide +kernel
theorem dX0_setColour_11 : decode cX0_setColour 11 = .ok (.imul, 1) := by decide +kernel
theorem dX0_setColour_12 : decode cX0_setColour 12 = .ok (.ior, 1) := by decide +kernel
theorem dX0_setColour_13 : decode cX0_setColour 13 = .ok (.putfield 15, 3) := by decide +kernel
theorem dX0_setColour_16 : decode cX0_setColour 16 = .ok (.return_, 1) := by decide +kernel
theorem dX0_setGround_0 : decode cX0_setGround 0 = .ok (.aload_n 0, 1) := by decide +kernel
theorem dX0_setGround_1 : decode cX0_setGround 1 = .ok (.aload_n 0, 1) := by decide +kernel
theorem dX0_setGround_2 : decode cX0_setGround 2 = .ok (.getfield 15, 3) := by decide +kernel
theorem dX0_setGround_5 : decode cX0_setGround 5 = .ok (.sipush (-1921), 3) := by decide +kernel
theorem dX0_setGround_8 : decode cX0_setGround 8 = .ok (.iand, 1) := by decide +kernel
theorem dX0_setGround_9 : decode cX0_setGround 9 = .ok (.iload_n 1, 1) := by decide +kernel
theorem dX0_setGround_10 : decode cX0_setGround 10 = .ok (.sipush 128, 3) := by decide +kernel
theorem dX0_setGround_13 : decode cX0_setGround 13 = .ok (.imul, 1) := by decide +kernel
theorem dX0_setGround_14 : decode cX0_setGround 14 = .ok (.ior, 1) := by decide +kernel
theorem dX0_setGround_15 : decode cX0_setGround 15 = .ok (.putfield 15, 3) := by decide +kernel
theorem dX0_setGround_18 : decode cX0_setGround 18 = .ok (.return_, 1) := by decide +kernel
end
section
theorem dX1_init_0 : decode cX1_init 0 = .ok (.aload_n 0, 1) := by decide +kernel
theorem dX1_init_1 : decode cX1_init 1 = .ok (.invokespecial 3, 3) := by decide +kernel
theorem dX1_init_4 : decode cX1_init 4 = .ok (.return_, 1) := by decide +kernel
theorem dX1_drop_0 : decode cX1_drop 0 = .ok (.aload_n 0, 1) := by decide +kernel
theorem dX1_drop_1 : decode cX1_drop 1 = .ok (.iconst 0, 1) := by decide +kernel
theorem dX1_drop_2 : decode cX1_drop 2 = .ok (.putfield 9, 3) := by decide +kernel
theorem dX1_drop_5 : decode cX1_drop 5 = .ok (.return_, 1) := by decide +kernel
theorem dX1_begin_0 : decode cX1_begin 0 = .ok (.iload_n 1, 1) := by decide +kernel
theorem dX1_begin_1 : decode cX1_begin 1 = .ok (.sipush 224, 3) := by decide +kernel
theorem dX1_begin_4 : decode cX1_begin 4 = .ok (.if_icmp .ge 18, 3) := by decide +kernel
theorem dX1_begin_7 : decode cX1_begin 7 = .ok (.aload_n 0, 1) := by decide +kernel
theorem dX1_begin_8 : decode cX1_begin 8 = .ok (.iconst 1, 1) := by decide +kernel
theorem dX1_begin_9 : decode cX1_begin 9 = .ok (.iload_n 1, 1) := by decide +kernel
theorem dX1_begin_10 : decode cX1_begin 10 = .ok (.bipush 31, 2) := by decide +kernel
theorem dX1_begin_12 : decode cX1_begin 12 = .ok (.iand, 1) := by decide +kernel
theorem dX1_begin_13 : decode cX1_begin 13 = .ok (.sipush 128, 3) := by decide +kernel
theorem dX1_begin_16 : decode cX1_begin 16 = .ok (.invokevirtual 15, 3) := by decide +kernel
theorem dX1_begin_19 : decode cX1_begin 19 = .ok (.goto 36, 3) := by decide +kernel
theorem dX1_begin_22 : decode cX1_begin 22 = .ok (.iload_n 1, 1) := by decide +kernel
theorem dX1_begin_23 : decode cX1_begin 23 = .ok (.sipush 240, 3) := by decide +kernel
theorem dX1_begin_26 : decode cX1_begin 26 = .ok (.if_icmp .ge 18, 3) := by decide +kernel
theorem dX1_begin_29 : decode cX1_begin 29 = .ok (.aload_n 0, 1) := by decide +kernel
theorem dX1_begin_30 : decode cX1_begin 30 = .ok (.iconst 2, 1) := by decide +kernel
theorem dX1_begin_31 : decode cX1_begin 31 = .ok (.iload_n 1, 1) := by decide +kernel
theorem dX1_begin_32 : decode cX1_begin 32 = .ok (.bipush 15, 2) := by decide +kernel
theorem dX1_begin_34 : decode cX1_begin 34 = .ok (.iand, 1) := by decide +kernel
theorem dX1_begin_35 : decode cX1_begin 35 = .ok (.sipush 2048, 3) := by decide +kernel
theorem dX1_begin_38 : decode cX1_begin 38 = .ok (.invokevirtual 15, 3) := by decide +kernel
theorem dX1_begin_41 : decode cX1_begin 41 = .ok (.goto 14, 3) := by decide +kernel
theorem dX1_begin_44 : decode cX1_begin 44 = .ok (.aload_n 0, 1) := by decide +kernel
theorem dX1_begin_45 : decode cX1_begin 45 = .ok (.iconst 3, 1) := by decide +kernel
theorem dX1_begin_46 : decode cX1_begin 46 = .ok (.iload_n 1, 1) := by decide +kernel
theorem dX1_begin_47 : decode cX1_begin 47 = .ok (.bipush 7, 2) := by decide +kernel
theorem dX1_begin_49 : decode cX1_begin 49 = .ok (.iand, 1) := by decide +kernel
theorem dX1_begin_50 : decode cX1_begin 50 = .ok (.ldc 19, 2) := by decide +kernel
theorem dX1_begin_52 : decode cX1_begin 52 = .ok (.invokevirtual 15, 3) := by decide +kernel
theorem dX1_begin_55 : decode cX1_begin 55 = .ok (.return_, 1) := by decide +kernel
theorem dX1_start_0 : decode cX1_start 0 = .ok (.aload_n 0, 1) := by decide +kernel
theorem dX1_start_1 : decode cX1_start 1 = .ok (.iload_n 1, 1) := by decide +kernel
theorem dX1_start_2 : decode cX1_start 2 = .ok (.putfield 9, 3) := by decide +kernel
theorem dX1_start_5 : decode cX1_start 5 = .ok (.aload_n 0, 1) := by decide +kernel
theorem dX1_start_6 : decode cX1_start 6 = .ok (.iload_n 2, 1) := by decide +kernel
theorem dX1_start_7 : decode cX1_start 7 = .ok (.putfield 20, 3) := by decide +kernel
theorem dX1_start_10 : decode cX1_start 10 = .ok (.aload_n 0, 1) := by decide +kernel
theorem dX1_start_11 : decode cX1_start 11 = .ok (.iload_n 3, 1) := by decide +kernel
theorem dX1_start_12 : decode cX1_start 12 = .ok (.putfield 23, 3) := by decide +kernel
theorem dX1_start_15 : decode cX1_start 15 = .ok (.return_, 1) := by decide +kernel
theorem dX1_add_0 : decode cX1_add 0 = .ok (.aload_n 0, 1) := by decide +kernel
theorem dX1_add_1 : decode cX1_add 1 = .ok (.aload_n 0, 1) := by decide +kernel
theorem dX1_add_2 : decode cX1_add 2 = .ok (.getfield 20, 3) := by decide +kernel
theorem dX1_add_5 : decode cX1_add 5 = .ok (.bipush 6, 2) := by decide +kernel
theorem dX1_add_7 : decode cX1_add 7 = .ok (.ishl, 1) := by decide +kernel
theorem dX1_add_8 : decode cX1_add 8 = .ok (.iload_n 1, 1) := by decide +kernel
theorem dX1_add_9 : decode cX1_add 9 = .ok (.bipush 63, 2) := by decide +kernel
theorem dX1_add_11 : decode cX1_add 11 = .ok (.iand, 1) := by decide +kernel
theorem dX1_add_12 : decode cX1_add 12 = .ok (.ior, 1) := by decide +kernel
theorem dX1_add_13 : decode cX1_add 13 = .ok (.putfield 20, 3) := by decide +kernel
theorem dX1_add_16 : decode cX1_add 16 = .ok (.aload_n 0, 1) := by decide +kernel
theorem dX1_add_17 : decode cX1_add 17 = .ok (.dup, 1) := by decide +kernel
theorem dX1_add_18 : decode cX1_add 18 = .ok (.getfield 9, 3) := by decide +kernel
theorem dX1_add_21 : decode cX1_add 21 = .ok (.iconst 1, 1) := by decide +kernel
theorem dX1_add_22 : decode cX1_add 22 = .ok (.isub, 1) := by decide +kernel
theorem dX1_add_23 : decode cX1_add 23 = .ok (.putfield 9, 3) := by decide +kernel
theorem dX1_add_26 : decode cX1_add 26 = .ok (.return_, 1) := by decide +kernel
theorem dX1_whole_0 : decode cX1_whole 0 = .ok (.aload_n 0, 1) := by decide +kernel
theorem dX1_whole_1 : decode cX1_whole 1 = .ok (.getfield 20, 3) := by decide +kernel
theorem dX1_whole_4 : decode cX1_whole 4 = .ok (.ldc 26, 2) := by decide +kernel
theorem dX1_whole_6 : decode cX1_whole 6 = .ok (.if_icmp .lt 16, 3) := by decide +kernel
theorem dX1_whole_9 : decode cX1_whole 9 = .ok (.aload_n 0, 1) := by decide +kernel
theorem dX1_whole_10 : decode cX1_whole 10 = .ok (.getfield 20, 3) := by decide +kernel
theorem dX1_whole_13 : decode cX1_whole 13 = .ok (.ldc 27, 2) := by decide +kernel
theorem dX1_whole_15 : decode cX1_whole 15 = .ok (.if_icmp .gt 7, 3) := by decide +kernel
theorem dX1_whole_18 : decode cX1_whole 18 = .ok (.iconst 1, 1) := by decide +kernel
theorem dX1_whole_19 : decode cX1_whole 19 = .ok (.goto 4, 3) := by decide +kernel
theorem dX1_whole_22 : decode cX1_whole 22 = .ok (.iconst 0, 1) := by decide +kernel
theorem dX1_whole_23 : decode cX1_whole 23 = .ok (.istore_n 1, 1) := by decide +kernel
theorem dX1_whole_24 : decode cX1_whole 24 = .ok (.aload_n 0, 1) := by decide +kernel
theorem dX1_whole_25 : decode cX1_whole 25 = .ok (.getfield 20, 3) := by decide +kernel
theorem dX1_whole_28 : decode cX1_whole 28 = .ok (.aload_n 0, 1) := by decide +kernel
theorem dX1_whole_29 : decode cX1_whole 29 = .ok (.getfield 23, 3) := by decide +kernel
theorem dX1_whole_32 : decode cX1_whole 32 = .ok (.if_icmp .lt 16, 3) := by decide +kernel
theorem dX1_whole_35 : decode cX1_whole 35 = .ok (.iload_n 1, 1) := by decide +kernel
theorem dX1_whole_36 : decode cX1_whole 36 = .ok (.ifCond .ne 12, 3) := by decide +kernel
theorem dX1_whole_39 : decode cX1_whole 39 = .ok (.aload_n 0, 1) := by decide +kernel
theorem dX1_whole_40 : decode cX1_whole 40 = .ok (.getfield 20, 3) := by decide +kernel
theorem dX1_whole_43 : decode cX1_whole 43 = .ok (.ldc 28, 2) := by decide +kernel
theorem dX1_whole_45 : decode cX1_whole 45 = .ok (.if_icmp .le 8, 3) := by decide +kernel
theorem dX1_whole_48 : decode cX1_whole 48 = .ok (.ldc 29, 2) := by decide +kernel
theorem dX1_whole_50 : decode cX1_whole 50 = .ok (.goto 7, 3) := by decide +kernel
theorem dX1_whole_53 : decode cX1_whole 53 = .ok (.aload_n 0, 1) := by decide +kernel
theorem dX1_whole_54 : decode cX1_whole 54 = .ok (.getfield 20, 3) := by decide +kernel
theorem dX1_whole_57 : decode cX1_whole 57 = .ok (.ireturn, 1) := by decide +kernel
end
section
theorem dX2_init_0 : decode cX2_init 0 = .ok (.aload_n 0, 1) := by decide +kernel
theorem dX2_init_1 : decode cX2_init 1 = .ok (.invokespecial 3, 3) := by decide +kernel
theorem dX2_init_4 : decode cX2_init 4 = .ok (.aload_n 0, 1) := by decide +kernel
theorem dX2_init_5 : decode cX2_init 5 = .ok (.bipush 6, 2) := by decide +kernel
theorem dX2_init_7 : decode cX2_init 7 = .ok (.newarray .int, 2) := by decide +kernel
theorem dX2_init_9 : decode cX2_init 9 = .ok (.putfield 9, 3) := by decide +kernel
theorem dX2_init_12 : decode cX2_init 12 = .ok (.return_, 1) := by decide +kernel
theorem dX2_begin_0 : decode cX2_begin 0 = .ok (.iconst 0, 1) := by decide +kernel
theorem dX2_begin_1 : decode cX2_begin 1 = .ok (.istore_n 1, 1) := by decide +kernel
theorem dX2_begin_2 : decode cX2_begin 2 = .ok (.iload_n 1, 1) := by decide +kernel
theorem dX2_begin_3 : decode cX2_begin 3 = .ok (.bipush 6, 2) := by decide +kernel
theorem dX2_begin_5 : decode cX2_begin 5 = .ok (.if_icmp .ge 16, 3) := by decide +kernel
theorem dX2_begin_8 : decode cX2_begin 8 = .ok (.aload_n 0, 1) := by decide +kernel
theorem dX2_begin_9 : decode cX2_begin 9 = .ok (.getfield 9, 3) := by decide +kernel
theorem dX2_begin_12 : decode cX2_begin 12 = .ok (.iload_n 1, 1) := by decide +kernel
theorem dX2_begin_13 : decode cX2_begin 13 = .ok (.iconst 0, 1) := by decide +kernel
theorem dX2_begin_14 : decode cX2_begin 14 = .ok (.iastore, 1) := by decide +kernel
theorem dX2_begin_15 : decode cX2_begin 15 = .ok (.iinc 1 1, 3) := by decide +kernel
theorem dX2_begin_18 : decode cX2_begin 18 = .ok (.goto (-16), 3) := by decide +kernel
theorem dX2_begin_21 : decode cX2_begin 21 = .ok (.aload_n 0, 1) := by decide +kernel
theorem dX2_begin_22 : decode cX2_begin 22 = .ok (.iconst 0, 1) := by decide +kernel
theorem dX2_begin_23 : decode cX2_begin 23 = .ok (.putfield 15, 3) := by decide +kernel
theorem dX2_begin_26 : decode cX2_begin 26 = .ok (.aload_n 0, 1) := by decide +kernel
theorem dX2_begin_27 : decode cX2_begin 27 = .ok (.iconst 0, 1) := by decide +kernel
theorem dX2_begin_28 : decode cX2_begin 28 = .ok (.putfield 19, 3) := by decide +kernel
theorem dX2_begin_31 : decode cX2_begin 31 = .ok (.return_, 1) := by decide +kernel
theorem dX2_isUntouched_0 : decode cX2_isUntouched 0 = .ok (.aload_n 0, 1) := by decide +kernel
theorem dX2_isUntouched_1 : decode cX2_isUntouched 1 = .ok (.getfield 15, 3) := by decide +kernel
theorem dX2_isUntouched_4 : decode cX2_isUntouched 4 = .ok (.ifCond .ne 14, 3) := by decide +kernel
theorem dX2_isUntouched_7 : decode cX2_isUntouched 7 = .ok (.aload_n 0, 1) := by decide +kernel
theorem dX2_isUntouched_8 : decode cX2_isUntouched 8 = .ok (.getfield 19, 3) := by decide +kernel
theorem dX2_isUntouched_11 : decode cX2_isUntouched 11 = .ok (.ifCond .ne 7, 3) := by decide +kernel
theorem dX2_isUntouched_14 : decode cX2_isUntouched 14 = .ok (.iconst 1, 1) := by decide +kernel
theorem dX2_isUntouched_15 : decode cX2_isUntouched 15 = .ok (.goto 4, 3) := by decide +kernel
theorem dX2_isUntouched_18 : decode cX2_isUntouched 18 = .ok (.iconst 0, 1) := by decide +kernel
theorem dX2_isUntouched_19 : decode cX2_isUntouched 19 = .ok (.ireturn, 1) := by decide +kernel
theorem dX2_addDigit_0 : decode cX2_addDigit 0 = .ok (.aload_n 0, 1) := by decide +kernel
theorem dX2_addDigit_1 : decode cX2_addDigit 1 = .ok (.iconst 1, 1) := by decide +kernel
theorem dX2_addDigit_2 : decode cX2_addDigit 2 = .ok (.aload_n 0, 1) := by decide +kernel
theorem dX2_addDigit_3 : decode cX2_addDigit 3 = .ok (.getfield 15, 3) := by decide +kernel
theorem dX2_addDigit_6 : decode cX2_addDigit 6 = .ok (.invokestatic 23, 3) := by decide +kernel
theorem dX2_addDigit_9 : decode cX2_addDigit 9 = .ok (.putfield 15, 3) := by decide +kernel
theorem dX2_addDigit_12 : decode cX2_addDigit 12 = .ok (.aload_n 0, 1) := by decide +kernel
theorem dX2_addDigit_13 : decode cX2_addDigit 13 = .ok (.getfield 15, 3) := by decide +kernel
theorem dX2_addDigit_16 : decode cX2_addDigit 16 = .ok (.iconst 1, 1) := by decide +kernel
theorem dX2_addDigit_17 : decode cX2_addDigit 17 = .ok (.isub, 1) := by decide +kernel
theorem dX2_addDigit_18 : decode cX2_addDigit 18 = .ok (.istore_n 2, 1) := by decide +kernel
theorem dX2_addDigit_19 : decode cX2_addDigit 19 = .ok (.iload_n 2, 1) := by decide +kernel
theorem dX2_addDigit_20 : decode cX2_addDigit 20 = .ok (.bipush 6, 2) := by decide +kernel
theorem dX2_addDigit_22 : decode cX2_addDigit 22 = .ok (.if_icmp .ge 26, 3) := by decide +kernel
theorem dX2_addDigit_25 : decode cX2_addDigit 25 = .ok (.aload_n 0, 1) := by decide +kernel
theorem dX2_addDigit_26 : decode cX2_addDigit 26 = .ok (.getfield 9, 3) := by decide +kernel
theorem dX2_addDigit_29 : decode cX2_addDigit 29 = .ok (.iload_n 2, 1) := by decide +kernel
theorem dX2_addDigit_30 : decode cX2_addDigit 30 = .ok (.sipush 9999, 3) := by decide +kernel
theorem dX2_addDigit_33 : decode cX2_addDigit 33 = .ok (.aload_n 0, 1) := by decide +kernel
theorem dX2_addDigit_34 : decode cX2_addDigit 34 = .ok (.getfield 9, 3) := by decide +kernel
theorem dX2_addDigit_37 : decode cX2_addDigit 37 = .ok (.iload_n 2, 1) := by decide +kernel
theorem dX2_addDigit_38 : decode cX2_addDigit 38 = .ok (.iaload, 1) := by decide +kernel
theorem dX2_addDigit_39 : decode cX2_addDigit 39 = .ok (.bipush 10, 2) := by decide +kernel
theorem dX2_addDigit_41 : decode cX2_addDigit 41 = .ok (.imul, 1) := by decide +kernel
theorem dX2_addDigit_42 : decode cX2_addDigit 42 = .ok (.iload_n 1, 1) := by decide +kernel
theorem dX2_addDigit_43 : decode cX2_addDigit 43 = .ok (.iadd, 1) := by decide +kernel
theorem dX2_addDigit_44 : decode cX2_addDigit 44 = .ok (.invokestatic 29, 3) := by decide +kernel
theorem dX2_addDigit_47 : decode cX2_addDigit 47 = .ok (.iastore, 1) := by decide +kernel
theorem dX2_addDigit_48 : decode cX2_addDigit 48 = .ok (.return_, 1) := by decide +kernel
theorem dX2_next_0 : decode cX2_next 0 = .ok (.aload_n 0, 1) := by decide +kernel
theorem dX2_next_1 : decode cX2_next 1 = .ok (.bipush 7, 2) := by decide +kernel
theorem dX2_next_3 : decode cX2_next 3 = .ok (.iconst 1, 1) := by decide +kernel
theorem dX2_next_4 : decode cX2_next 4 = .ok (.aload_n 0, 1) := by decide +kernel
theorem dX2_next_5 : decode cX2_next 5 = .ok (.getfield 15, 3) := by decide +kernel
theorem dX2_next_8 : decode cX2_next 8 = .ok (.invokestatic 23, 3) := by decide +kernel
theorem dX2_next_11 : decode cX2_next 11 = .ok (.iconst 1, 1) := by decide +kernel
theorem dX2_next_12 : decode cX2_next 12 = .ok (.iadd, 1) := by decide +kernel
theorem dX2_next_13 : decode cX2_next 13 = .ok (.invokestatic 29, 3) := by decide +kernel
theorem dX2_next_16 : decode cX2_next 16 = .ok (.putfield 15, 3) := by decide +kernel
theorem dX2_next_19 : decode cX2_next 19 = .ok (.return_, 1) := by decide +kernel
theorem dX2_kept_0 : decode cX2_kept 0 = .ok (.aload_n 0, 1) := by decide +kernel
theorem dX2_kept_1 : decode cX2_kept 1 = .ok (.getfield 15, 3) := by decide +kernel
theorem dX2_kept_4 : decode cX2_kept 4 = .ok (.bipush 6, 2) := by decide +kernel
theorem dX2_kept_6 : decode cX2_kept 6 = .ok (.invokestatic 29, 3) := by decide +kernel
theorem dX2_kept_9 : decode cX2_kept 9 = .ok (.ireturn, 1) := by decide +kernel
theorem dX2_valueAt_0 : decode cX2_valueAt 0 = .ok (.iload_n 1, 1) := by decide +kernel
theorem dX2_valueAt_1 : decode cX2_valueAt 1 = .ok (.ifCond .lt 18, 3) := by decide +kernel
theorem dX2_valueAt_4 : decode cX2_valueAt 4 = .ok (.iload_n 1, 1) := by decide +kernel
theorem dX2_valueAt_5 : decode cX2_valueAt 5 = .ok (.bipush 6, 2) := by decide +kernel
theorem dX2_valueAt_7 : decode cX2_valueAt 7 = .ok (.if_icmp .ge 12, 3) := by decide +kernel
theorem dX2_valueAt_10 : decode cX2_valueAt 10 = .ok (.aload_n 0, 1) := by decide +kernel
theorem dX2_valueAt_11 : decode cX2_valueAt 11 = .ok (.getfield 9, 3) := by decide +kernel
theorem dX2_valueAt_14 : decode cX2_valueAt 14 = .ok (.iload_n 1, 1) := by decide +kernel
theorem dX2_valueAt_15 : decode cX2_valueAt 15 = .ok (.iaload, 1) := by decide +kernel
theorem dX2_valueAt_16 : decode cX2_valueAt 16 = .ok (.goto 4, 3) := by decide +kernel
theorem dX2_valueAt_19 : decode cX2_valueAt 19 = .ok (.iconst 0, 1) := by decide +kernel
theorem dX2_valueAt_20 : decode cX2_valueAt 20 = .ok (.ireturn, 1) := by decide +kernel
end
section
theorem dX3_init_0 : decode cX3_init 0 = .ok (.aload_n 0, 1) := by decide +kernel
theorem dX3_init_1 : decode cX3_init 1 = .ok (.invokespecial 3, 3) := by decide +kernel
theorem dX3_init_4 : decode cX3_init 4 = .ok (.aload_n 0, 1) := by decide +kernel
theorem dX3_init_5 : decode cX3_init 5 = .ok (.bipush 96, 2) := by decide +kernel
theorem dX3_init_7 : decode cX3_init 7 = .ok (.newarray .int, 2) := by decide +kernel
theorem dX3_init_9 : decode cX3_init 9 = .ok (.putfield 9, 3) := by decide +kernel
theorem dX3_init_12 : decode cX3_init 12 = .ok (.aload_n 0, 1) := by decide +kernel
theorem dX3_init_13 : decode cX3_init 13 = .ok (.bipush 96, 2) := by decide +kernel
theorem dX3_init_15 : decode cX3_init 15 = .ok (.newarray .int, 2) := by decide +kernel
theorem dX3_init_17 : decode cX3_init 17 = .ok (.putfield 15, 3) := by decide +kernel
theorem dX3_init_20 : decode cX3_init 20 = .ok (.return_, 1) := by decide +kernel
theorem dX3_put_0 : decode cX3_put 0 = .ok (.iload_n 1, 1) := by decide +kernel
theorem dX3_put_1 : decode cX3_put 1 = .ok (.ifCond .lt 9, 3) := by decide +kernel
theorem dX3_put_4 : decode cX3_put 4 = .ok (.iload_n 1, 1) := by decide +kernel
theorem dX3_put_5 : decode cX3_put 5 = .ok (.bipush 96, 2) := by decide +kernel
theorem dX3_put_7 : decode cX3_put 7 = .ok (.if_icmp .lt 4, 3) := by decide +kernel
theorem dX3_put_10 : decode cX3_put 10 = .ok (.return_, 1) := by decide +kernel
theorem dX3_put_11 : decode cX3_put 11 = .ok (.aload_n 0, 1) := by decide +kernel
theorem dX3_put_12 : decode cX3_put 12 = .ok (.getfield 9, 3) := by decide +kernel
theorem dX3_put_15 : decode cX3_put 15 = .ok (.iload_n 1, 1) := by decide +kernel
theorem dX3_put_16 : decode cX3_put 16 = .ok (.iload_n 2, 1) := by decide +kernel
theorem dX3_put_17 : decode cX3_put 17 = .ok (.iastore, 1) := by decide +kernel
theorem dX3_put_18 : decode cX3_put 18 = .ok (.aload_n 0, 1) := by decide +kernel
theorem dX3_put_19 : decode cX3_put 19 = .ok (.getfield 15, 3) := by decide +kernel
theorem dX3_put_22 : decode cX3_put 22 = .ok (.iload_n 1, 1) := by decide +kernel
theorem dX3_put_23 : decode cX3_put 23 = .ok (.iload_n 3, 1) := by decide +kernel
theorem dX3_put_24 : decode cX3_put 24 = .ok (.iastore, 1) := by decide +kernel
theorem dX3_put_25 : decode cX3_put 25 = .ok (.return_, 1) := by decide +kernel
theorem dX3_clear_0 : decode cX3_clear 0 = .ok (.iload_n 1, 1) := by decide +kernel
theorem dX3_clear_1 : decode cX3_clear 1 = .ok (.ifCond .lt 9, 3) := by decide +kernel
theorem dX3_clear_4 : decode cX3_clear 4 = .ok (.iload_n 2, 1) := by decide +kernel
theorem dX3_clear_5 : decode cX3_clear 5 = .ok (.bipush 96, 2) := by decide +kernel
theorem dX3_clear_7 : decode cX3_clear 7 = .ok (.if_icmp .lt 4, 3) := by decide +kernel
theorem dX3_clear_10 : decode cX3_clear 10 = .ok (.return_, 1) := by decide +kernel
theorem dX3_clear_11 : decode cX3_clear 11 = .ok (.iload_n 1, 1) := by decide +kernel
theorem dX3_clear_12 : decode cX3_clear 12 = .ok (.istore_n 3, 1) := by decide +kernel
theorem dX3_clear_13 : decode cX3_clear 13 = .ok (.iload_n 3, 1) := by decide +kernel
theorem dX3_clear_14 : decode cX3_clear 14 = .ok (.iload_n 2, 1) := by decide +kernel
theorem dX3_clear_15 : decode cX3_clear 15 = .ok (.if_icmp .gt 24, 3) := by decide +kernel
theorem dX3_clear_18 : decode cX3_clear 18 = .ok (.aload_n 0, 1) := by decide +kernel
theorem dX3_clear_19 : decode cX3_clear 19 = .ok (.getfield 9, 3) := by decide +kernel
theorem dX3_clear_22 : decode cX3_clear 22 = .ok (.iload_n 3, 1) := by decide +kernel
theorem dX3_clear_23 : decode cX3_clear 23 = .ok (.bipush 32, 2) := by decide +kernel
theorem dX3_clear_25 : decode cX3_clear 25 = .ok (.iastore, 1) := by decide +kernel
theorem dX3_clear_26 : decode cX3_clear 26 = .ok (.aload_n 0, 1) := by decide +kernel
theorem dX3_clear_27 : decode cX3_clear 27 = .ok (.getfield 15, 3) := by decide +kernel
theorem dX3_clear_30 : decode cX3_clear 30 = .ok (.iload_n 3, 1) := by decide +kernel
theorem dX3_clear_31 : decode cX3_clear 31 = .ok (.iconst 0, 1) := by decide +kernel
theorem dX3_clear_32 : decode cX3_clear 32 = .ok (.iastore, 1) := by decide +kernel
theorem dX3_clear_33 : decode cX3_clear 33 = .ok (.iinc 3 1, 3) := by decide +kernel
theorem dX3_clear_36 : decode cX3_clear 36 = .ok (.goto (-23), 3) := by decide +kernel
theorem dX3_clear_39 : decode cX3_clear 39 = .ok (.return_, 1) := by decide +kernel
theorem dX3_pull_0 : decode cX3_pull 0 = .ok (.iload_n 1, 1) := by decide +kernel
theorem dX3_pull_1 : decode cX3_pull 1 = .ok (.ifCond .lt 13, 3) := by decide +kernel
theorem dX3_pull_4 : decode cX3_pull 4 = .ok (.iload_n 2, 1) := by decide +kernel
theorem dX3_pull_5 : decode cX3_pull 5 = .ok (.bipush 96, 2) := by decide +kernel
theorem dX3_pull_7 : decode cX3_pull 7 = .ok (.if_icmp .ge 7, 3) := by decide +kernel
theorem dX3_pull_10 : decode cX3_pull 10 = .ok (.iload_n 3, 1) := by decide +kernel
theorem dX3_pull_11 : decode cX3_pull 11 = .ok (.ifCond .ge 4, 3) := by decide +kernel
theorem dX3_pull_14 : decode cX3_pull 14 = .ok (.return_, 1) := by decide +kernel
theorem dX3_pull_15 : decode cX3_pull 15 = .ok (.iload_n 1, 1) := by decide +kernel
theorem dX3_pull_16 : decode cX3_pull 16 = .ok (.istore 4, 2) := by decide +kernel
theorem dX3_pull_18 : decode cX3_pull 18 = .ok (.iload 4, 2) := by decide +kernel
theorem dX3_pull_20 : decode cX3_pull 20 = .ok (.iload_n 2, 1) := by decide +kernel
theorem dX3_pull_21 : decode cX3_pull 21 = .ok (.if_icmp .gt 75, 3) := by decide +kernel
theorem dX3_pull_24 : decode cX3_pull 24 = .ok (.iload 4, 2) := by decide +kernel
theorem dX3_pull_26 : decode cX3_pull 26 = .ok (.iload_n 3, 1) := by decide +kernel
theorem dX3_pull_27 : decode cX3_pull 27 = .ok (.iadd, 1) := by decide +kernel
theorem dX3_pull_28 : decode cX3_pull 28 = .ok (.iload_n 2, 1) := by decide +kernel
theorem dX3_pull_29 : decode cX3_pull 29 = .ok (.if_icmp .gt 7, 3) := by decide +kernel
theorem dX3_pull_32 : decode cX3_pull 32 = .ok (.iconst 1, 1) := by decide +kernel
theorem dX3_pull_33 : decode cX3_pull 33 = .ok (.goto 4, 3) := by decide +kernel
theorem dX3_pull_36 : decode cX3_pull 36 = .ok (.iconst 0, 1) := by decide +kernel
theorem dX3_pull_37 : decode cX3_pull 37 = .ok (.istore 5, 2) := by decide +kernel
theorem dX3_pull_39 : decode cX3_pull 39 = .ok (.aload_n 0, 1) := by decide +kernel
theorem dX3_pull_40 : decode cX3_pull 40 = .ok (.getfield 9, 3) := by decide +kernel
theorem dX3_pull_43 : decode cX3_pull 43 = .ok (.iload 4, 2) := by decide +kernel
theorem dX3_pull_45 : decode cX3_pull 45 = .ok (.iload 5, 2) := by decide +kernel
theorem dX3_pull_47 : decode cX3_pull 47 = .ok (.ifCond .eq 15, 3) := by decide +kernel
theorem dX3_pull_50 : decode cX3_pull 50 = .ok (.aload_n 0, 1) := by decide +kernel
theorem dX3_pull_51 : decode cX3_pull 51 = .ok (.getfield 9, 3) := by decide +kernel
theorem dX3_pull_54 : decode cX3_pull 54 = .ok (.iload 4, 2) := by decide +kernel
theorem dX3_pull_56 : decode cX3_pull 56 = .ok (.iload_n 3, 1) := by decide +kernel
theorem dX3_pull_57 : decode cX3_pull 57 = .ok (.iadd, 1) := by decide +kernel
theorem dX3_pull_58 : decode cX3_pull 58 = .ok (.iaload, 1) := by decide +kernel
theorem dX3_pull_59 : decode cX3_pull 59 = .ok (.goto 5, 3) := by decide +kernel
theorem dX3_pull_62 : decode cX3_pull 62 = .ok (.bipush 32, 2) := by decide +kernel
theorem dX3_pull_64 : decode cX3_pull 64 = .ok (.iastore, 1) := by decide +kernel
theorem dX3_pull_65 : decode cX3_pull 65 = .ok (.aload_n 0, 1) := by decide +kernel
theorem dX3_pull_66 : decode cX3_pull 66 = .ok (.getfield 15, 3) := by decide +kernel
theorem dX3_pull_69 : decode cX3_pull 69 = .ok (.iload 4, 2) := by decide +kernel
theorem dX3_pull_71 : decode cX3_pull 71 = .ok (.iload 5, 2) := by decide +kernel
theorem dX3_pull_73 : decode cX3_pull 73 = .ok (.ifCond .eq 15, 3) := by decide +kernel
theorem dX3_pull_76 : decode cX3_pull 76 = .ok (.aload_n 0, 1) := by decide +kernel
theorem dX3_pull_77 : decode cX3_pull 77 = .ok (.getfield 15, 3) := by decide +kernel
theorem dX3_pull_80 : decode cX3_pull 80 = .ok (.iload 4, 2) := by decide +kernel
theorem dX3_pull_82 : decode cX3_pull 82 = .ok (.iload_n 3, 1) := by decide +kernel
theorem dX3_pull_83 : decode cX3_pull 83 = .ok (.iadd, 1) := by decide +kernel
theorem dX3_pull_84 : decode cX3_pull 84 = .ok (.iaload, 1) := by decide +kernel
theorem dX3_pull_85 : decode cX3_pull 85 = .ok (.goto 4, 3) := by decide +kernel
theorem dX3_pull_88 : decode cX3_pull 88 = .ok (.iconst 0, 1) := by decide +kernel
theorem dX3_pull_89 : decode cX3_pull 89 = .ok (.iastore, 1) := by decide +kernel
theorem dX3_pull_90 : decode cX3_pull 90 = .ok (.iinc 4 1, 3) := by decide +kernel
theorem dX3_pull_93 : decode cX3_pull 93 = .ok (.goto (-75), 3) := by decide +kernel
theorem dX3_pull_96 : decode cX3_pull 96 = .ok (.return_, 1) := by decide +kernel
theorem dX3_push_0 : decode cX3_push 0 = .ok (.iload_n 1, 1) := by decide +kernel
theorem dX3_push_1 : decode cX3_push 1 = .ok (.ifCond .lt 13, 3) := by decide +kernel
theorem dX3_push_4 : decode cX3_push 4 = .ok (.iload_n 2, 1) := by decide +kernel
theorem dX3_push_5 : decode cX3_push 5 = .ok (.bipush 96, 2) := by decide +kernel
theorem dX3_push_7 : decode cX3_push 7 = .ok (.if_icmp .ge 7, 3) := by decide +kernel
theorem dX3_push_10 : decode cX3_push 10 = .ok (.iload_n 3, 1) := by decide +kernel
theorem dX3_push_11 : decode cX3_push 11 = .ok (.ifCond .ge 4, 3) := by decide +kernel
theorem dX3_push_14 : decode cX3_push 14 = .ok (.return_, 1) := by decide +kernel
theorem dX3_push_15 : decode cX3_push 15 = .ok (.iload_n 2, 1) := by decide +kernel
theorem dX3_push_16 : decode cX3_push 16 = .ok (.istore 4, 2) := by decide +kernel
theorem dX3_push_18 : decode cX3_push 18 = .ok (.iload 4, 2) := by decide +kernel
theorem dX3_push_20 : decode cX3_push 20 = .ok (.iload_n 1, 1) := by decide +kernel
theorem dX3_push_21 : decode cX3_push 21 = .ok (.if_icmp .lt 75, 3) := by decide +kernel
theorem dX3_push_24 : decode cX3_push 24 = .ok (.iload 4, 2) := by decide +kernel
theorem dX3_push_26 : decode cX3_push 26 = .ok (.iload_n 3, 1) := by decide +kernel
theorem dX3_push_27 : decode cX3_push 27 = .ok (.isub, 1) := by decide +kernel
theorem dX3_push_28 : decode cX3_push 28 = .ok (.iload_n 1, 1) := by decide +kernel
theorem dX3_push_29 : decode cX3_push 29 = .ok (.if_icmp .lt 7, 3) := by decide +kernel
theorem dX3_push_32 : decode cX3_push 32 = .ok (.iconst 1, 1) := by decide +kernel
theorem dX3_push_33 : decode cX3_push 33 = .ok (.goto 4, 3) := by decide +kernel
theorem dX3_push_36 : decode cX3_push 36 = .ok (.iconst 0, 1) := by decide +kernel
theorem dX3_push_37 : decode cX3_push 37 = .ok (.istore 5, 2) := by decide +kernel
theorem dX3_push_39 : decode cX3_push 39 = .ok (.aload_n 0, 1) := by decide +kernel
theorem dX3_push_40 : decode cX3_push 40 = .ok (.getfield 9, 3) := by decide +kernel
theorem dX3_push_43 : decode cX3_push 43 = .ok (.iload 4, 2) := by decide +kernel
theorem dX3_push_45 : decode cX3_push 45 = .ok (.iload 5, 2) := by decide +kernel
theorem dX3_push_47 : decode cX3_push 47 = .ok (.ifCond .eq 15, 3) := by decide +kernel
theorem dX3_push_50 : decode cX3_push 50 = .ok (.aload_n 0, 1) := by decide +kernel
theorem dX3_push_51 : decode cX3_push 51 = .ok (.getfield 9, 3) := by decide +kernel
theorem dX3_push_54 : decode cX3_push 54 = .ok (.iload 4, 2) := by decide +kernel
theorem dX3_push_56 : decode cX3_push 56 = .ok (.iload_n 3, 1) := by decide +kernel
theorem dX3_push_57 : decode cX3_push 57 = .ok (.isub, 1) := by decide +kernel
theorem dX3_push_58 : decode cX3_push 58 = .ok (.iaload, 1) := by decide +kernel
theorem dX3_push_59 : decode cX3_push 59 = .ok (.goto 5, 3) := by decide +kernel
theorem dX3_push_62 : decode cX3_push 62 = .ok (.bipush 32, 2) := by decide +kernel
theorem dX3_push_64 : decode cX3_push 64 = .ok (.iastore, 1) := by decide +kernel
theorem dX3_push_65 : decode cX3_push 65 = .ok (.aload_n 0, 1) := by decide +kernel
theorem dX3_push_66 : decode cX3_push 66 = .ok (.getfield 15, 3) := by decide +kernel
theorem dX3_push_69 : decode cX3_push 69 = .ok (.iload 4, 2) := by decide +kernel
theorem dX3_push_71 : decode cX3_push 71 = .ok (.iload 5, 2) := by decide +kernel
theorem dX3_push_73 : decode cX3_push 73 = .ok (.ifCond .eq 15, 3) := by decide +kernel
theorem dX3_push_76 : decode cX3_push 76 = .ok (.aload_n 0, 1) := by decide +kernel
theorem dX3_push_77 : decode cX3_push 77 = .ok (.getfield 15, 3) := by decide +kernel
theorem dX3_push_80 : decode cX3_push 80 = .ok (.iload 4, 2) := by decide +kernel
theorem dX3_push_82 : decode cX3_push 82 = .ok (.iload_n 3, 1) := by decide +kernel
theorem dX3_push_83 : decode cX3_push 83 = .ok (.isub, 1) := by decide +kernel
theorem dX3_push_84 : decode cX3_push 84 = .ok (.iaload, 1) := by decide +kernel
theorem dX3_push_85 : decode cX3_push 85 = .ok (.goto 4, 3) := by decide +kernel
theorem dX3_push_88 : decode cX3_push 88 = .ok (.iconst 0, 1) := by decide +kernel
theorem dX3_push_89 : decode cX3_push 89 = .ok (.iastore, 1) := by decide +kernel
theorem dX3_push_90 : decode cX3_push 90 = .ok (.iinc 4 (-1), 3) := by decide +kernel
theorem dX3_push_93 : decode cX3_push 93 = .ok (.goto (-75), 3) := by decide +kernel
theorem dX3_push_96 : decode cX3_push 96 = .ok (.return_, 1) := by decide +kernel
theorem dX3_count_0 : decode cX3_count 0 = .ok (.iconst 0, 1) := by decide +kernel
theorem dX3_count_1 : decode cX3_count 1 = .ok (.istore_n 3, 1) := by decide +kernel
theorem dX3_count_2 : decode cX3_count 2 = .ok (.iconst 0, 1) := by decide +kernel
theorem dX3_count_3 : decode cX3_count 3 = .ok (.istore 4, 2) := by decide +kernel
theorem dX3_count_5 : decode cX3_count 5 = .ok (.iload 4, 2) := by decide +kernel
theorem dX3_count_7 : decode cX3_count 7 = .ok (.bipush 96, 2) := by decide +kernel
theorem dX3_count_9 : decode cX3_count 9 = .ok (.if_icmp .ge 38, 3) := by decide +kernel
theorem dX3_count_12 : decode cX3_count 12 = .ok (.aload_n 0, 1) := by decide +kernel
theorem dX3_count_13 : decode cX3_count 13 = .ok (.getfield 9, 3) := by decide +kernel
theorem dX3_count_16 : decode cX3_count 16 = .ok (.iload 4, 2) := by decide +kernel
theorem dX3_count_18 : decode cX3_count 18 = .ok (.iaload, 1) := by decide +kernel
theorem dX3_count_19 : decode cX3_count 19 = .ok (.iload_n 1, 1) := by decide +kernel
theorem dX3_count_20 : decode cX3_count 20 = .ok (.if_icmp .ne 21, 3) := by decide +kernel
theorem dX3_count_23 : decode cX3_count 23 = .ok (.iload_n 2, 1) := by decide +kernel
theorem dX3_count_24 : decode cX3_count 24 = .ok (.ifCond .lt 14, 3) := by decide +kernel
theorem dX3_count_27 : decode cX3_count 27 = .ok (.aload_n 0, 1) := by decide +kernel
theorem dX3_count_28 : decode cX3_count 28 = .ok (.getfield 15, 3) := by decide +kernel
theorem dX3_count_31 : decode cX3_count 31 = .ok (.iload 4, 2) := by decide +kernel
theorem dX3_count_33 : decode cX3_count 33 = .ok (.iaload, 1) := by decide +kernel
theorem dX3_count_34 : decode cX3_count 34 = .ok (.iload_n 2, 1) := by decide +kernel
theorem dX3_count_35 : decode cX3_count 35 = .ok (.if_icmp .ne 6, 3) := by decide +kernel
theorem dX3_count_38 : decode cX3_count 38 = .ok (.iinc 3 1, 3) := by decide +kernel
theorem dX3_count_41 : decode cX3_count 41 = .ok (.iinc 4 1, 3) := by decide +kernel
theorem dX3_count_44 : decode cX3_count 44 = .ok (.goto (-39), 3) := by decide +kernel
theorem dX3_count_47 : decode cX3_count 47 = .ok (.iload_n 3, 1) := by decide +kernel
theorem dX3_count_48 : decode cX3_count 48 = .ok (.ireturn, 1) := by decide +kernel
end
section
theorem dX4_init_0 : decode cX4_init 0 = .ok (.aload_n 0, 1) := by decide +kernel
theorem dX4_init_1 : decode cX4_init 1 = .ok (.invokespecial 3, 3) := by decide +kernel
theorem dX4_init_4 : decode cX4_init 4 = .ok (.aload_n 0, 1) := by decide +kernel
theorem dX4_init_5 : decode cX4_init 5 = .ok (.bipush 64, 2) := by decide +kernel
theorem dX4_init_7 : decode cX4_init 7 = .ok (.newarray .int, 2) := by decide +kernel
theorem dX4_init_9 : decode cX4_init 9 = .ok (.putfield 9, 3) := by decide +kernel
theorem dX4_init_12 : decode cX4_init 12 = .ok (.return_, 1) := by decide +kernel
theorem dX4_clear_0 : decode cX4_clear 0 = .ok (.aload_n 0, 1) := by decide +kernel
theorem dX4_clear_1 : decode cX4_clear 1 = .ok (.iconst 0, 1) := by decide +kernel
theorem dX4_clear_2 : decode cX4_clear 2 = .ok (.putfield 15, 3) := by decide +kernel
theorem dX4_clear_5 : decode cX4_clear 5 = .ok (.return_, 1) := by decide +kernel
theorem dX4_addWell_0 : decode cX4_addWell 0 = .ok (.aload_n 0, 1) := by decide +kernel
theorem dX4_addWell_1 : decode cX4_addWell 1 = .ok (.iconst 4, 1) := by decide +kernel
theorem dX4_addWell_2 : decode cX4_addWell 2 = .ok (.invokevirtual 19, 3) := by decide +kernel
theorem dX4_addWell_5 : decode cX4_addWell 5 = .ok (.ifCond .eq 27, 3) := by decide +kernel
theorem dX4_addWell_8 : decode cX4_addWell 8 = .ok (.aload_n 0, 1) := by decide +kernel
theorem dX4_addWell_9 : decode cX4_addWell 9 = .ok (.bipush 27, 2) := by decide +kernel
theorem dX4_addWell_11 : decode cX4_addWell 11 = .ok (.invokevirtual 23, 3) := by decide +kernel
theorem dX4_addWell_14 : decode cX4_addWell 14 = .ok (.aload_n 0, 1) := by decide +kernel
theorem dX4_addWell_15 : decode cX4_addWell 15 = .ok (.bipush 91, 2) := by decide +kernel
theorem dX4_addWell_17 : decode cX4_addWell 17 = .ok (.invokevirtual 23, 3) := by decide +kernel
theorem dX4_addWell_20 : decode cX4_addWell 20 = .ok (.aload_n 0, 1) := by decide +kernel
theorem dX4_addWell_21 : decode cX4_addWell 21 = .ok (.bipush 48, 2) := by decide +kernel
theorem dX4_addWell_23 : decode cX4_addWell 23 = .ok (.invokevirtual 23, 3) := by decide +kernel
theorem dX4_addWell_26 : decode cX4_addWell 26 = .ok (.aload_n 0, 1) := by decide +kernel
theorem dX4_addWell_27 : decode cX4_addWell 27 = .ok (.bipush 110, 2) := by decide +kernel
theorem dX4_addWell_29 : decode cX4_addWell 29 = .ok (.invokevirtual 23, 3) := by decide +kernel
theorem dX4_addWell_32 : decode cX4_addWell 32 = .ok (.return_, 1) := by decide +kernel
theorem dX4_addPosition_0 : decode cX4_addPosition 0 = .ok (.iload_n 2, 1) := by decide +kernel
theorem dX4_addPosition_1 : decode cX4_addPosition 1 = .ok (.bipush 9, 2) := by decide +kernel
theorem dX4_addPosition_3 : decode cX4_addPosition 3 = .ok (.if_icmp .le 7, 3) := by decide +kernel
theorem dX4_addPosition_6 : decode cX4_addPosition 6 = .ok (.iconst 1, 1) := by decide +kernel
theorem dX4_addPosition_7 : decode cX4_addPosition 7 = .ok (.goto 4, 3) := by decide +kernel
theorem dX4_addPosition_10 : decode cX4_addPosition 10 = .ok (.iconst 0, 1) := by decide +kernel
theorem dX4_addPosition_11 : decode cX4_addPosition 11 = .ok (.istore_n 3, 1) := by decide +kernel
theorem dX4_addPosition_12 : decode cX4_addPosition 12 = .ok (.aload_n 0, 1) := by decide +kernel
theorem dX4_addPosition_13 : decode cX4_addPosition 13 = .ok (.iload_n 3, 1) := by decide +kernel
theorem dX4_addPosition_14 : decode cX4_addPosition 14 = .ok (.ifCond .eq 8, 3) := by decide +kernel
theorem dX4_addPosition_17 : decode cX4_addPosition 17 = .ok (.bipush 7, 2) := by decide +kernel
theorem dX4_addPosition_19 : decode cX4_addPosition 19 = .ok (.goto 5, 3) := by decide +kernel
theorem dX4_addPosition_22 : decode cX4_addPosition 22 = .ok (.bipush 6, 2) := by decide +kernel
theorem dX4_addPosition_24 : decode cX4_addPosition 24 = .ok (.invokevirtual 19, 3) := by decide +kernel
theorem dX4_addPosition_27 : decode cX4_addPosition 27 = .ok (.ifCond .ne 4, 3) := by decide +kernel
theorem dX4_addPosition_30 : decode cX4_addPosition 30 = .ok (.return_, 1) := by decide +kernel
theorem dX4_addPosition_31 : decode cX4_addPosition 31 = .ok (.aload_n 0, 1) := by decide +kernel
theorem dX4_addPosition_32 : decode cX4_addPosition 32 = .ok (.bipush 27, 2) := by decide +kernel
theorem dX4_addPosition_34 : decode cX4_addPosition 34 = .ok (.invokevirtual 23, 3) := by decide +kernel
theorem dX4_addPosition_37 : decode cX4_addPosition 37 = .ok (.aload_n 0, 1) := by decide +kernel
theorem dX4_addPosition_38 : decode cX4_addPosition 38 = .ok (.bipush 91, 2) := by decide +kernel
theorem dX4_addPosition_40 : decode cX4_addPosition 40 = .ok (.invokevirtual 23, 3) := by decide +kernel
theorem dX4_addPosition_43 : decode cX4_addPosition 43 = .ok (.aload_n 0, 1) := by decide +kernel
theorem dX4_addPosition_44 : decode cX4_addPosition 44 = .ok (.bipush 48, 2) := by decide +kernel
theorem dX4_addPosition_46 : decode cX4_addPosition 46 = .ok (.iload_n 1, 1) := by decide +kernel
theorem dX4_addPosition_47 : decode cX4_addPosition 47 = .ok (.iadd, 1) := by decide +kernel
theorem dX4_addPosition_48 : decode cX4_addPosition 48 = .ok (.invokevirtual 23, 3) := by decide +kernel
theorem dX4_addPosition_51 : decode cX4_addPosition 51 = .ok (.aload_n 0, 1) := by decide +kernel
theorem dX4_addPosition_52 : decode cX4_addPosition 52 = .ok (.bipush 59, 2) := by decide +kernel
theorem dX4_addPosition_54 : decode cX4_addPosition 54 = .ok (.invokevirtual 23, 3) := by decide +kernel
theorem dX4_addPosition_57 : decode cX4_addPosition 57 = .ok (.iload_n 3, 1) := by decide +kernel
theorem dX4_addPosition_58 : decode cX4_addPosition 58 = .ok (.ifCond .eq 14, 3) := by decide +kernel
theorem dX4_addPosition_61 : decode cX4_addPosition 61 = .ok (.aload_n 0, 1) := by decide +kernel
theorem dX4_addPosition_62 : decode cX4_addPosition 62 = .ok (.bipush 48, 2) := by decide +kernel
theorem dX4_addPosition_64 : decode cX4_addPosition 64 = .ok (.iload_n 2, 1) := by decide +kernel
theorem dX4_addPosition_65 : decode cX4_addPosition 65 = .ok (.bipush 10, 2) := by decide +kernel
theorem dX4_addPosition_67 : decode cX4_addPosition 67 = .ok (.idiv, 1) := by decide +kernel
theorem dX4_addPosition_68 : decode cX4_addPosition 68 = .ok (.iadd, 1) := by decide +kernel
theorem dX4_addPosition_69 : decode cX4_addPosition 69 = .ok (.invokevirtual 23, 3) := by decide +kernel
theorem dX4_addPosition_72 : decode cX4_addPosition 72 = .ok (.aload_n 0, 1) := by decide +kernel
theorem dX4_addPosition_73 : decode cX4_addPosition 73 = .ok (.bipush 48, 2) := by decide +kernel
theorem dX4_addPosition_75 : decode cX4_addPosition 75 = .ok (.iload_n 2, 1) := by decide +kernel
theorem dX4_addPosition_76 : decode cX4_addPosition 76 = .ok (.bipush 10, 2) := by decide +kernel
theorem dX4_addPosition_78 : decode cX4_addPosition 78 = .ok (.irem, 1) := by decide +kernel
theorem dX4_addPosition_79 : decode cX4_addPosition 79 = .ok (.iadd, 1) := by decide +kernel
theorem dX4_addPosition_80 : decode cX4_addPosition 80 = .ok (.invokevirtual 23, 3) := by decide +kernel
theorem dX4_addPosition_83 : decode cX4_addPosition 83 = .ok (.aload_n 0, 1) := by decide +kernel
theorem dX4_addPosition_84 : decode cX4_addPosition 84 = .ok (.bipush 82, 2) := by decide +kernel
theorem dX4_addPosition_86 : decode cX4_addPosition 86 = .ok (.invokevirtual 23, 3) := by decide +kernel
theorem dX4_addPosition_89 : decode cX4_addPosition 89 = .ok (.return_, 1) := by decide +kernel
theorem dX4_takeFirst_0 : decode cX4_takeFirst 0 = .ok (.aload_n 0, 1) := by decide +kernel
theorem dX4_takeFirst_1 : decode cX4_takeFirst 1 = .ok (.getfield 9, 3) := by decide +kernel
theorem dX4_takeFirst_4 : decode cX4_takeFirst 4 = .ok (.iconst 0, 1) := by decide +kernel
theorem dX4_takeFirst_5 : decode cX4_takeFirst 5 = .ok (.iaload, 1) := by decide +kernel
theorem dX4_takeFirst_6 : decode cX4_takeFirst 6 = .ok (.istore_n 1, 1) := by decide +kernel
theorem dX4_takeFirst_7 : decode cX4_takeFirst 7 = .ok (.iconst 1, 1) := by decide +kernel
theorem dX4_takeFirst_8 : decode cX4_takeFirst 8 = .ok (.istore_n 2, 1) := by decide +kernel
theorem dX4_takeFirst_9 : decode cX4_takeFirst 9 = .ok (.iload_n 2, 1) := by decide +kernel
theorem dX4_takeFirst_10 : decode cX4_takeFirst 10 = .ok (.bipush 64, 2) := by decide +kernel
theorem dX4_takeFirst_12 : decode cX4_takeFirst 12 = .ok (.if_icmp .ge 23, 3) := by decide +kernel
theorem dX4_takeFirst_15 : decode cX4_takeFirst 15 = .ok (.aload_n 0, 1) := by decide +kernel
theorem dX4_takeFirst_16 : decode cX4_takeFirst 16 = .ok (.getfield 9, 3) := by decide +kernel
theorem dX4_takeFirst_19 : decode cX4_takeFirst 19 = .ok (.iload_n 2, 1) := by decide +kernel
theorem dX4_takeFirst_20 : decode cX4_takeFirst 20 = .ok (.iconst 1, 1) := by decide +kernel
theorem dX4_takeFirst_21 : decode cX4_takeFirst 21 = .ok (.isub, 1) := by decide +kernel
theorem dX4_takeFirst_22 : decode cX4_takeFirst 22 = .ok (.aload_n 0, 1) := by decide +kernel
theorem dX4_takeFirst_23 : decode cX4_takeFirst 23 = .ok (.getfield 9, 3) := by decide +kernel
theorem dX4_takeFirst_26 : decode cX4_takeFirst 26 = .ok (.iload_n 2, 1) := by decide +kernel
theorem dX4_takeFirst_27 : decode cX4_takeFirst 27 = .ok (.iaload, 1) := by decide +kernel
theorem dX4_takeFirst_28 : decode cX4_takeFirst 28 = .ok (.iastore, 1) := by decide +kernel
theorem dX4_takeFirst_29 : decode cX4_takeFirst 29 = .ok (.iinc 2 1, 3) := by decide +kernel
theorem dX4_takeFirst_32 : decode cX4_takeFirst 32 = .ok (.goto (-23), 3) := by decide +kernel
theorem dX4_takeFirst_35 : decode cX4_takeFirst 35 = .ok (.aload_n 0, 1) := by decide +kernel
theorem dX4_takeFirst_36 : decode cX4_takeFirst 36 = .ok (.dup, 1) := by decide +kernel
theorem dX4_takeFirst_37 : decode cX4_takeFirst 37 = .ok (.getfield 15, 3) := by decide +kernel
theorem dX4_takeFirst_40 : decode cX4_takeFirst 40 = .ok (.iconst 1, 1) := by decide +kernel
theorem dX4_takeFirst_41 : decode cX4_takeFirst 41 = .ok (.isub, 1) := by decide +kernel
theorem dX4_takeFirst_42 : decode cX4_takeFirst 42 = .ok (.putfield 15, 3) := by decide +kernel
theorem dX4_takeFirst_45 : decode cX4_takeFirst 45 = .ok (.iload_n 1, 1) := by decide +kernel
theorem dX4_takeFirst_46 : decode cX4_takeFirst 46 = .ok (.ireturn, 1) := by decide +kernel
theorem dX4_hasRoom_0 : decode cX4_hasRoom 0 = .ok (.aload_n 0, 1) := by decide +kernel
theorem dX4_hasRoom_1 : decode cX4_hasRoom 1 = .ok (.getfield 15, 3) := by decide +kernel
theorem dX4_hasRoom_4 : decode cX4_hasRoom 4 = .ok (.iload_n 1, 1) := by decide +kernel
theorem dX4_hasRoom_5 : decode cX4_hasRoom 5 = .ok (.iadd, 1) := by decide +kernel
theorem dX4_hasRoom_6 : decode cX4_hasRoom 6 = .ok (.bipush 64, 2) := by decide +kernel
theorem dX4_hasRoom_8 : decode cX4_hasRoom 8 = .ok (.if_icmp .gt 7, 3) := by decide +kernel
theorem dX4_hasRoom_11 : decode cX4_hasRoom 11 = .ok (.iconst 1, 1) := by decide +kernel
theorem dX4_hasRoom_12 : decode cX4_hasRoom 12 = .ok (.goto 4, 3) := by decide +kernel
theorem dX4_hasRoom_15 : decode cX4_hasRoom 15 = .ok (.iconst 0, 1) := by decide +kernel
theorem dX4_hasRoom_16 : decode cX4_hasRoom 16 = .ok (.ireturn, 1) := by decide +kernel
theorem dX4_add_0 : decode cX4_add 0 = .ok (.aload_n 0, 1) := by decide +kernel
theorem dX4_add_1 : decode cX4_add 1 = .ok (.getfield 15, 3) := by decide +kernel
theorem dX4_add_4 : decode cX4_add 4 = .ok (.ifCond .lt 32, 3) := by decide +kernel
theorem dX4_add_7 : decode cX4_add 7 = .ok (.aload_n 0, 1) := by decide +kernel
theorem dX4_add_8 : decode cX4_add 8 = .ok (.getfield 15, 3) := by decide +kernel
theorem dX4_add_11 : decode cX4_add 11 = .ok (.bipush 64, 2) := by decide +kernel
theorem dX4_add_13 : decode cX4_add 13 = .ok (.if_icmp .ge 23, 3) := by decide +kernel
theorem dX4_add_16 : decode cX4_add 16 = .ok (.aload_n 0, 1) := by decide +kernel
theorem dX4_add_17 : decode cX4_add 17 = .ok (.getfield 9, 3) := by decide +kernel
theorem dX4_add_20 : decode cX4_add 20 = .ok (.aload_n 0, 1) := by decide +kernel
theorem dX4_add_21 : decode cX4_add 21 = .ok (.getfield 15, 3) := by decide +kernel
theorem dX4_add_24 : decode cX4_add 24 = .ok (.iload_n 1, 1) := by decide +kernel
theorem dX4_add_25 : decode cX4_add 25 = .ok (.iastore, 1) := by decide +kernel
theorem dX4_add_26 : decode cX4_add 26 = .ok (.aload_n 0, 1) := by decide +kernel
theorem dX4_add_27 : decode cX4_add 27 = .ok (.dup, 1) := by decide +kernel
theorem dX4_add_28 : decode cX4_add 28 = .ok (.getfield 15, 3) := by decide +kernel
theorem dX4_add_31 : decode cX4_add 31 = .ok (.iconst 1, 1) := by decide +kernel
theorem dX4_add_32 : decode cX4_add 32 = .ok (.iadd, 1) := by decide +kernel
theorem dX4_add_33 : decode cX4_add 33 = .ok (.putfield 15, 3) := by decide +kernel
theorem dX4_add_36 : decode cX4_add 36 = .ok (.return_, 1) := by decide +kernel
end
section
theorem dX5_init_0 : decode cX5_init 0 = .ok (.aload_n 0, 1) := by decide +kernel
theorem dX5_init_1 : decode cX5_init 1 = .ok (.invokespecial 3, 3) := by decide +kernel
theorem dX5_init_4 : decode cX5_init 4 = .ok (.aload_n 0, 1) := by decide +kernel
theorem dX5_init_5 : decode cX5_init 5 = .ok (.new 9, 3) := by decide +kernel
theorem dX5_init_8 : decode cX5_init 8 = .ok (.dup, 1) := by decide +kernel
theorem dX5_init_9 : decode cX5_init 9 = .ok (.invokespecial 11, 3) := by decide +kernel
theorem dX5_init_12 : decode cX5_init 12 = .ok (.putfield 12, 3) := by decide +kernel
theorem dX5_init_15 : decode cX5_init 15 = .ok (.aload_n 0, 1) := by decide +kernel
theorem dX5_init_16 : decode cX5_init 16 = .ok (.new 9, 3) := by decide +kernel
theorem dX5_init_19 : decode cX5_init 19 = .ok (.dup, 1) := by decide +kernel
theorem dX5_init_20 : decode cX5_init 20 = .ok (.invokespecial 11, 3) := by decide +kernel
theorem dX5_init_23 : decode cX5_init 23 = .ok (.putfield 18, 3) := by decide +kernel
theorem dX5_init_26 : decode cX5_init 26 = .ok (.aload_n 0, 1) := by decide +kernel
theorem dX5_init_27 : decode cX5_init 27 = .ok (.new 21, 3) := by decide +kernel
theorem dX5_init_30 : decode cX5_init 30 = .ok (.dup, 1) := by decide +kernel
theorem dX5_init_31 : decode cX5_init 31 = .ok (.invokespecial 23, 3) := by decide +kernel
theorem dX5_init_34 : decode cX5_init 34 = .ok (.putfield 24, 3) := by decide +kernel
theorem dX5_init_37 : decode cX5_init 37 = .ok (.aload_n 0, 1) := by decide +kernel
theorem dX5_init_38 : decode cX5_init 38 = .ok (.new 21, 3) := by decide +kernel
theorem dX5_init_41 : decode cX5_init 41 = .ok (.dup, 1) := by decide +kernel
theorem dX5_init_42 : decode cX5_init 42 = .ok (.invokespecial 23, 3) := by decide +kernel
theorem dX5_init_45 : decode cX5_init 45 = .ok (.putfield 28, 3) := by decide +kernel
theorem dX5_init_48 : decode cX5_init 48 = .ok (.return_, 1) := by decide +kernel
theorem dX5_reset_0 : decode cX5_reset 0 = .ok (.aload_n 0, 1) := by decide +kernel
theorem dX5_reset_1 : decode cX5_reset 1 = .ok (.getfield 12, 3) := by decide +kernel
theorem dX5_reset_4 : decode cX5_reset 4 = .ok (.iconst 0, 1) := by decide +kernel
theorem dX5_reset_5 : decode cX5_reset 5 = .ok (.bipush 95, 2) := by decide +kernel
theorem dX5_reset_7 : decode cX5_reset 7 = .ok (.invokevirtual 31, 3) := by decide +kernel
theorem dX5_reset_10 : decode cX5_reset 10 = .ok (.aload_n 0, 1) := by decide +kernel
theorem dX5_reset_11 : decode cX5_reset 11 = .ok (.getfield 18, 3) := by decide +kernel
theorem dX5_reset_14 : decode cX5_reset 14 = .ok (.iconst 0, 1) := by decide +kernel
theorem dX5_reset_15 : decode cX5_reset 15 = .ok (.bipush 95, 2) := by decide +kernel
theorem dX5_reset_17 : decode cX5_reset 17 = .ok (.invokevirtual 31, 3) := by decide +kernel
theorem dX5_reset_20 : decode cX5_reset 20 = .ok (.aload_n 0, 1) := by decide +kernel
theorem dX5_reset_21 : decode cX5_reset 21 = .ok (.getfield 24, 3) := by decide +kernel
theorem dX5_reset_24 : decode cX5_reset 24 = .ok (.invokevirtual 35, 3) := by decide +kernel
theorem dX5_reset_27 : decode cX5_reset 27 = .ok (.aload_n 0, 1) := by decide +kernel
theorem dX5_reset_28 : decode cX5_reset 28 = .ok (.getfield 28, 3) := by decide +kernel
theorem dX5_reset_31 : decode cX5_reset 31 = .ok (.invokevirtual 35, 3) := by decide +kernel
theorem dX5_reset_34 : decode cX5_reset 34 = .ok (.aload_n 0, 1) := by decide +kernel
theorem dX5_reset_35 : decode cX5_reset 35 = .ok (.iconst 0, 1) := by decide +kernel
theorem dX5_reset_36 : decode cX5_reset 36 = .ok (.putfield 38, 3) := by decide +kernel
theorem dX5_reset_39 : decode cX5_reset 39 = .ok (.aload_n 0, 1) := by decide +kernel
theorem dX5_reset_40 : decode cX5_reset 40 = .ok (.bipush 7, 2) := by decide +kernel
theorem dX5_reset_42 : decode cX5_reset 42 = .ok (.putfield 42, 3) := by decide +kernel
theorem dX5_reset_45 : decode cX5_reset 45 = .ok (.aload_n 0, 1) := by decide +kernel
theorem dX5_reset_46 : decode cX5_reset 46 = .ok (.sipush 272, 3) := by decide +kernel
theorem dX5_reset_49 : decode cX5_reset 49 = .ok (.putfield 45, 3) := by decide +kernel
theorem dX5_reset_52 : decode cX5_reset 52 = .ok (.aload_n 0, 1) := by decide +kernel
theorem dX5_reset_53 : decode cX5_reset 53 = .ok (.iconst 0, 1) := by decide +kernel
theorem dX5_reset_54 : decode cX5_reset 54 = .ok (.putfield 48, 3) := by decide +kernel
theorem dX5_reset_57 : decode cX5_reset 57 = .ok (.aload_n 0, 1) := by decide +kernel
theorem dX5_reset_58 : decode cX5_reset 58 = .ok (.iconst 1, 1) := by decide +kernel
theorem dX5_reset_59 : decode cX5_reset 59 = .ok (.putfield 52, 3) := by decide +kernel
theorem dX5_reset_62 : decode cX5_reset 62 = .ok (.aload_n 0, 1) := by decide +kernel
theorem dX5_reset_63 : decode cX5_reset 63 = .ok (.iconst 0, 1) := by decide +kernel
theorem dX5_reset_64 : decode cX5_reset 64 = .ok (.putfield 55, 3) := by decide +kernel
theorem dX5_reset_67 : decode cX5_reset 67 = .ok (.aload_n 0, 1) := by decide +kernel
theorem dX5_reset_68 : decode cX5_reset 68 = .ok (.iconst 0, 1) := by decide +kernel
theorem dX5_reset_69 : decode cX5_reset 69 = .ok (.putfield 58, 3) := by decide +kernel
theorem dX5_reset_72 : decode cX5_reset 72 = .ok (.aload_n 0, 1) := by decide +kernel
theorem dX5_reset_73 : decode cX5_reset 73 = .ok (.iconst (-1), 1) := by decide +kernel
theorem dX5_reset_74 : decode cX5_reset 74 = .ok (.putfield 61, 3) := by decide +kernel
theorem dX5_reset_77 : decode cX5_reset 77 = .ok (.return_, 1) := by decide +kernel
theorem dX5_page_0 : decode cX5_page 0 = .ok (.aload_n 0, 1) := by decide +kernel
theorem dX5_page_1 : decode cX5_page 1 = .ok (.getfield 55, 3) := by decide +kernel
theorem dX5_page_4 : decode cX5_page 4 = .ok (.ifCond .eq 10, 3) := by decide +kernel
theorem dX5_page_7 : decode cX5_page 7 = .ok (.aload_n 0, 1) := by decide +kernel
theorem dX5_page_8 : decode cX5_page 8 = .ok (.getfield 18, 3) := by decide +kernel
theorem dX5_page_11 : decode cX5_page 11 = .ok (.goto 7, 3) := by decide +kernel
theorem dX5_page_14 : decode cX5_page 14 = .ok (.aload_n 0, 1) := by decide +kernel
theorem dX5_page_15 : decode cX5_page 15 = .ok (.getfield 12, 3) := by decide +kernel
theorem dX5_page_18 : decode cX5_page 18 = .ok (.areturn, 1) := by decide +kernel
theorem dX5_save_0 : decode cX5_save 0 = .ok (.aload_n 0, 1) := by decide +kernel
theorem dX5_save_1 : decode cX5_save 1 = .ok (.getfield 28, 3) := by decide +kernel
theorem dX5_save_4 : decode cX5_save 4 = .ok (.aload_n 0, 1) := by decide +kernel
theorem dX5_save_5 : decode cX5_save 5 = .ok (.getfield 24, 3) := by decide +kernel
theorem dX5_save_8 : decode cX5_save 8 = .ok (.invokevirtual 64, 3) := by decide +kernel
theorem dX5_save_11 : decode cX5_save 11 = .ok (.return_, 1) := by decide +kernel
theorem dX5_restore_0 : decode cX5_restore 0 = .ok (.aload_n 0, 1) := by decide +kernel
theorem dX5_restore_1 : decode cX5_restore 1 = .ok (.getfield 24, 3) := by decide +kernel
theorem dX5_restore_4 : decode cX5_restore 4 = .ok (.aload_n 0, 1) := by decide +kernel
theorem dX5_restore_5 : decode cX5_restore 5 = .ok (.getfield 28, 3) := by decide +kernel
theorem dX5_restore_8 : decode cX5_restore 8 = .ok (.invokevirtual 64, 3) := by decide +kernel
theorem dX5_restore_11 : decode cX5_restore 11 = .ok (.return_, 1) := by decide +kernel
theorem dX5_print_0 : decode cX5_print 0 = .ok (.aload_n 0, 1) := by decide +kernel
theorem dX5_print_1 : decode cX5_print 1 = .ok (.getfield 24, 3) := by decide +kernel
theorem dX5_print_4 : decode cX5_print 4 = .ok (.getfield 68, 3) := by decide +kernel
theorem dX5_print_7 : decode cX5_print 7 = .ok (.ifCond .eq 15, 3) := by decide +kernel
theorem dX5_print_10 : decode cX5_print 10 = .ok (.aload_n 0, 1) := by decide +kernel
theorem dX5_print_11 : decode cX5_print 11 = .ok (.getfield 24, 3) := by decide +kernel
theorem dX5_print_14 : decode cX5_print 14 = .ok (.iconst 0, 1) := by decide +kernel
theorem dX5_print_15 : decode cX5_print 15 = .ok (.putfield 71, 3) := by decide +kernel
theorem dX5_print_18 : decode cX5_print 18 = .ok (.aload_n 0, 1) := by decide +kernel
theorem dX5_print_19 : decode cX5_print 19 = .ok (.invokevirtual 74, 3) := by decide +kernel
theorem dX5_print_22 : decode cX5_print 22 = .ok (.aload_n 0, 1) := by decide +kernel
theorem dX5_print_23 : decode cX5_print 23 = .ok (.getfield 48, 3) := by decide +kernel
theorem dX5_print_26 : decode cX5_print 26 = .ok (.ifCond .eq 19, 3) := by decide +kernel
theorem dX5_print_29 : decode cX5_print 29 = .ok (.aload_n 0, 1) := by decide +kernel
theorem dX5_print_30 : decode cX5_print 30 = .ok (.invokevirtual 77, 3) := by decide +kernel
theorem dX5_print_33 : decode cX5_print 33 = .ok (.aload_n 0, 1) := by decide +kernel
theorem dX5_print_34 : decode cX5_print 34 = .ok (.invokevirtual 81, 3) := by decide +kernel
theorem dX5_print_37 : decode cX5_print 37 = .ok (.aload_n 0, 1) := by decide +kernel
theorem dX5_print_38 : decode cX5_print 38 = .ok (.invokevirtual 85, 3) := by decide +kernel
theorem dX5_print_41 : decode cX5_print 41 = .ok (.iconst 1, 1) := by decide +kernel
theorem dX5_print_42 : decode cX5_print 42 = .ok (.invokevirtual 88, 3) := by decide +kernel
theorem dX5_print_45 : decode cX5_print 45 = .ok (.aload_n 0, 1) := by decide +kernel
theorem dX5_print_46 : decode cX5_print 46 = .ok (.invokevirtual 77, 3) := by decide +kernel
theorem dX5_print_49 : decode cX5_print 49 = .ok (.aload_n 0, 1) := by decide +kernel
theorem dX5_print_50 : decode cX5_print 50 = .ok (.invokevirtual 81, 3) := by decide +kernel
theorem dX5_print_53 : decode cX5_print 53 = .ok (.iload_n 1, 1) := by decide +kernel
theorem dX5_print_54 : decode cX5_print 54 = .ok (.aload_n 0, 1) := by decide +kernel
theorem dX5_print_55 : decode cX5_print 55 = .ok (.getfield 24, 3) := by decide +kernel
theorem dX5_print_58 : decode cX5_print 58 = .ok (.getfield 92, 3) := by decide +kernel
theorem dX5_print_61 : decode cX5_print 61 = .ok (.invokevirtual 95, 3) := by decide +kernel
theorem dX5_print_64 : decode cX5_print 64 = .ok (.aload_n 0, 1) := by decide +kernel
theorem dX5_print_65 : decode cX5_print 65 = .ok (.getfield 24, 3) := by decide +kernel
theorem dX5_print_68 : decode cX5_print 68 = .ok (.getfield 71, 3) := by decide +kernel
theorem dX5_print_71 : decode cX5_print 71 = .ok (.bipush 11, 2) := by decide +kernel
theorem dX5_print_73 : decode cX5_print 73 = .ok (.if_icmp .ge 19, 3) := by decide +kernel
theorem dX5_print_76 : decode cX5_print 76 = .ok (.aload_n 0, 1) := by decide +kernel
theorem dX5_print_77 : decode cX5_print 77 = .ok (.getfield 24, 3) := by decide +kernel
theorem dX5_print_80 : decode cX5_print 80 = .ok (.dup, 1) := by decide +kernel
theorem dX5_print_81 : decode cX5_print 81 = .ok (.getfield 71, 3) := by decide +kernel
theorem dX5_print_84 : decode cX5_print 84 = .ok (.iconst 1, 1) := by decide +kernel
theorem dX5_print_85 : decode cX5_print 85 = .ok (.iadd, 1) := by decide +kernel
theorem dX5_print_86 : decode cX5_print 86 = .ok (.putfield 71, 3) := by decide +kernel
theorem dX5_print_89 : decode cX5_print 89 = .ok (.goto 14, 3) := by decide +kernel
theorem dX5_print_92 : decode cX5_print 92 = .ok (.aload_n 0, 1) := by decide +kernel
theorem dX5_print_93 : decode cX5_print 93 = .ok (.getfield 24, 3) := by decide +kernel
theorem dX5_print_96 : decode cX5_print 96 = .ok (.aload_n 0, 1) := by decide +kernel
theorem dX5_print_97 : decode cX5_print 97 = .ok (.getfield 52, 3) := by decide +kernel
theorem dX5_print_100 : decode cX5_print 100 = .ok (.putfield 68, 3) := by decide +kernel
theorem dX5_print_103 : decode cX5_print 103 = .ok (.aload_n 0, 1) := by decide +kernel
theorem dX5_print_104 : decode cX5_print 104 = .ok (.iload_n 1, 1) := by decide +kernel
theorem dX5_print_105 : decode cX5_print 105 = .ok (.putfield 61, 3) := by decide +kernel
theorem dX5_print_108 : decode cX5_print 108 = .ok (.return_, 1) := by decide +kernel
theorem dX5_repeat_0 : decode cX5_repeat 0 = .ok (.aload_n 0, 1) := by decide +kernel
theorem dX5_repeat_1 : decode cX5_repeat 1 = .ok (.getfield 61, 3) := by decide +kernel
theorem dX5_repeat_4 : decode cX5_repeat 4 = .ok (.iconst (-1), 1) := by decide +kernel
theorem dX5_repeat_5 : decode cX5_repeat 5 = .ok (.if_icmp .ne 4, 3) := by decide +kernel
theorem dX5_repeat_8 : decode cX5_repeat 8 = .ok (.return_, 1) := by decide +kernel
theorem dX5_repeat_9 : decode cX5_repeat 9 = .ok (.iload_n 1, 1) := by decide +kernel
theorem dX5_repeat_10 : decode cX5_repeat 10 = .ok (.bipush 24, 2) := by decide +kernel
theorem dX5_repeat_12 : decode cX5_repeat 12 = .ok (.invokestatic 98, 3) := by decide +kernel
theorem dX5_repeat_15 : decode cX5_repeat 15 = .ok (.istore_n 2, 1) := by decide +kernel
theorem dX5_repeat_16 : decode cX5_repeat 16 = .ok (.iconst 0, 1) := by decide +kernel
theorem dX5_repeat_17 : decode cX5_repeat 17 = .ok (.istore_n 3, 1) := by decide +kernel
theorem dX5_repeat_18 : decode cX5_repeat 18 = .ok (.iload_n 3, 1) := by decide +kernel
theorem dX5_repeat_19 : decode cX5_repeat 19 = .ok (.iload_n 2, 1) := by decide +kernel
theorem dX5_repeat_20 : decode cX5_repeat 20 = .ok (.if_icmp .ge 17, 3) := by decide +kernel
theorem dX5_repeat_23 : decode cX5_repeat 23 = .ok (.aload_n 0, 1) := by decide +kernel
theorem dX5_repeat_24 : decode cX5_repeat 24 = .ok (.aload_n 0, 1) := by decide +kernel
theorem dX5_repeat_25 : decode cX5_repeat 25 = .ok (.getfield 61, 3) := by decide +kernel
theorem dX5_repeat_28 : decode cX5_repeat 28 = .ok (.invokevirtual 104, 3) := by decide +kernel
theorem dX5_repeat_31 : decode cX5_repeat 31 = .ok (.iinc 3 1, 3) := by decide +kernel
theorem dX5_repeat_34 : decode cX5_repeat 34 = .ok (.goto (-16), 3) := by decide +kernel
theorem dX5_repeat_37 : decode cX5_repeat 37 = .ok (.return_, 1) := by decide +kernel
theorem dX5_feedRow_0 : decode cX5_feedRow 0 = .ok (.aload_n 0, 1) := by decide +kernel
theorem dX5_feedRow_1 : decode cX5_feedRow 1 = .ok (.getfield 24, 3) := by decide +kernel
theorem dX5_feedRow_4 : decode cX5_feedRow 4 = .ok (.getfield 108, 3) := by decide +kernel
theorem dX5_feedRow_7 : decode cX5_feedRow 7 = .ok (.aload_n 0, 1) := by decide +kernel
theorem dX5_feedRow_8 : decode cX5_feedRow 8 = .ok (.getfield 42, 3) := by decide +kernel
theorem dX5_feedRow_11 : decode cX5_feedRow 11 = .ok (.if_icmp .ne 23, 3) := by decide +kernel
theorem dX5_feedRow_14 : decode cX5_feedRow 14 = .ok (.aload_n 0, 1) := by decide +kernel
theorem dX5_feedRow_15 : decode cX5_feedRow 15 = .ok (.invokevirtual 77, 3) := by decide +kernel
theorem dX5_feedRow_18 : decode cX5_feedRow 18 = .ok (.aload_n 0, 1) := by decide +kernel
theorem dX5_feedRow_19 : decode cX5_feedRow 19 = .ok (.invokevirtual 111, 3) := by decide +kernel
theorem dX5_feedRow_22 : decode cX5_feedRow 22 = .ok (.aload_n 0, 1) := by decide +kernel
theorem dX5_feedRow_23 : decode cX5_feedRow 23 = .ok (.invokevirtual 114, 3) := by decide +kernel
theorem dX5_feedRow_26 : decode cX5_feedRow 26 = .ok (.bipush 12, 2) := by decide +kernel
theorem dX5_feedRow_28 : decode cX5_feedRow 28 = .ok (.invokevirtual 117, 3) := by decide +kernel
theorem dX5_feedRow_31 : decode cX5_feedRow 31 = .ok (.goto 28, 3) := by decide +kernel
theorem dX5_feedRow_34 : decode cX5_feedRow 34 = .ok (.aload_n 0, 1) := by decide +kernel
theorem dX5_feedRow_35 : decode cX5_feedRow 35 = .ok (.getfield 24, 3) := by decide +kernel
theorem dX5_feedRow_38 : decode cX5_feedRow 38 = .ok (.getfield 108, 3) := by decide +kernel
theorem dX5_feedRow_41 : decode cX5_feedRow 41 = .ok (.bipush 7, 2) := by decide +kernel
theorem dX5_feedRow_43 : decode cX5_feedRow 43 = .ok (.if_icmp .ge 16, 3) := by decide +kernel
theorem dX5_feedRow_46 : decode cX5_feedRow 46 = .ok (.aload_n 0, 1) := by decide +kernel
theorem dX5_feedRow_47 : decode cX5_feedRow 47 = .ok (.getfield 24, 3) := by decide +kernel
theorem dX5_feedRow_50 : decode cX5_feedRow 50 = .ok (.dup, 1) := by decide +kernel
theorem dX5_feedRow_51 : decode cX5_feedRow 51 = .ok (.getfield 108, 3) := by decide +kernel
theorem dX5_feedRow_54 : decode cX5_feedRow 54 = .ok (.iconst 1, 1) := by decide +kernel
theorem dX5_feedRow_55 : decode cX5_feedRow 55 = .ok (.iadd, 1) := by decide +kernel
theorem dX5_feedRow_56 : decode cX5_feedRow 56 = .ok (.putfield 108, 3) := by decide +kernel
theorem dX5_feedRow_59 : decode cX5_feedRow 59 = .ok (.aload_n 0, 1) := by decide +kernel
theorem dX5_feedRow_60 : decode cX5_feedRow 60 = .ok (.getfield 24, 3) := by decide +kernel
theorem dX5_feedRow_63 : decode cX5_feedRow 63 = .ok (.iconst 0, 1) := by decide +kernel
theorem dX5_feedRow_64 : decode cX5_feedRow 64 = .ok (.putfield 68, 3) := by decide +kernel
theorem dX5_feedRow_67 : decode cX5_feedRow 67 = .ok (.return_, 1) := by decide +kernel
theorem dX5_backRow_0 : decode cX5_backRow 0 = .ok (.aload_n 0, 1) := by decide +kernel
theorem dX5_backRow_1 : decode cX5_backRow 1 = .ok (.getfield 24, 3) := by decide +kernel
theorem dX5_backRow_4 : decode cX5_backRow 4 = .ok (.getfield 108, 3) := by decide +kernel
theorem dX5_backRow_7 : decode cX5_backRow 7 = .ok (.aload_n 0, 1) := by decide +kernel
theorem dX5_backRow_8 : decode cX5_backRow 8 = .ok (.getfield 38, 3) := by decide +kernel
theorem dX5_backRow_11 : decode cX5_backRow 11 = .ok (.if_icmp .ne 23, 3) := by decide +kernel
theorem dX5_backRow_14 : decode cX5_backRow 14 = .ok (.aload_n 0, 1) := by decide +kernel
theorem dX5_backRow_15 : decode cX5_backRow 15 = .ok (.invokevirtual 77, 3) := by decide +kernel
theorem dX5_backRow_18 : decode cX5_backRow 18 = .ok (.aload_n 0, 1) := by decide +kernel
theorem dX5_backRow_19 : decode cX5_backRow 19 = .ok (.invokevirtual 111, 3) := by decide +kernel
theorem dX5_backRow_22 : decode cX5_backRow 22 = .ok (.aload_n 0, 1) := by decide +kernel
theorem dX5_backRow_23 : decode cX5_backRow 23 = .ok (.invokevirtual 114, 3) := by decide +kernel
theorem dX5_backRow_26 : decode cX5_backRow 26 = .ok (.bipush 12, 2) := by decide +kernel
theorem dX5_backRow_28 : decode cX5_backRow 28 = .ok (.invokevirtual 88, 3) := by decide +kernel
theorem dX5_backRow_31 : decode cX5_backRow 31 = .ok (.goto 26, 3) := by decide +kernel
theorem dX5_backRow_34 : decode cX5_backRow 34 = .ok (.aload_n 0, 1) := by decide +kernel
theorem dX5_backRow_35 : decode cX5_backRow 35 = .ok (.getfield 24, 3) := by decide +kernel
theorem dX5_backRow_38 : decode cX5_backRow 38 = .ok (.getfield 108, 3) := by decide +kernel
theorem dX5_backRow_41 : decode cX5_backRow 41 = .ok (.ifCond .le 16, 3) := by decide +kernel
theorem dX5_backRow_44 : decode cX5_backRow 44 = .ok (.aload_n 0, 1) := by decide +kernel
theorem dX5_backRow_45 : decode cX5_backRow 45 = .ok (.getfield 24, 3) := by decide +kernel
theorem dX5_backRow_48 : decode cX5_backRow 48 = .ok (.dup, 1) := by decide +kernel
theorem dX5_backRow_49 : decode cX5_backRow 49 = .ok (.getfield 108, 3) := by decide +kernel
theorem dX5_backRow_52 : decode cX5_backRow 52 = .ok (.iconst 1, 1) := by decide +kernel
theorem dX5_backRow_53 : decode cX5_backRow 53 = .ok (.isub, 1) := by decide +kernel
theorem dX5_backRow_54 : decode cX5_backRow 54 = .ok (.putfield 108, 3) := by decide +kernel
theorem dX5_backRow_57 : decode cX5_backRow 57 = .ok (.aload_n 0, 1) := by decide +kernel
theorem dX5_backRow_58 : decode cX5_backRow 58 = .ok (.getfield 24, 3) := by decide +kernel
theorem dX5_backRow_61 : decode cX5_backRow 61 = .ok (.iconst 0, 1) := by decide +kernel
theorem dX5_backRow_62 : decode cX5_backRow 62 = .ok (.putfield 68, 3) := by decide +kernel
theorem dX5_backRow_65 : decode cX5_backRow 65 = .ok (.return_, 1) := by decide +kernel
theorem dX5_scrollUp_0 : decode cX5_scrollUp 0 = .ok (.aload_n 0, 1) := by decide +kernel
theorem dX5_scrollUp_1 : decode cX5_scrollUp 1 = .ok (.invokevirtual 77, 3) := by decide +kernel
theorem dX5_scrollUp_4 : decode cX5_scrollUp 4 = .ok (.aload_n 0, 1) := by decide +kernel
theorem dX5_scrollUp_5 : decode cX5_scrollUp 5 = .ok (.invokevirtual 111, 3) := by decide +kernel
theorem dX5_scrollUp_8 : decode cX5_scrollUp 8 = .ok (.aload_n 0, 1) := by decide +kernel
theorem dX5_scrollUp_9 : decode cX5_scrollUp 9 = .ok (.invokevirtual 114, 3) := by decide +kernel
theorem dX5_scrollUp_12 : decode cX5_scrollUp 12 = .ok (.iload_n 1, 1) := by decide +kernel
theorem dX5_scrollUp_13 : decode cX5_scrollUp 13 = .ok (.bipush 12, 2) := by decide +kernel
theorem dX5_scrollUp_15 : decode cX5_scrollUp 15 = .ok (.imul, 1) := by decide +kernel
theorem dX5_scrollUp_16 : decode cX5_scrollUp 16 = .ok (.invokevirtual 117, 3) := by decide +kernel
theorem dX5_scrollUp_19 : decode cX5_scrollUp 19 = .ok (.return_, 1) := by decide +kernel
theorem dX5_scrollDown_0 : decode cX5_scrollDown 0 = .ok (.aload_n 0, 1) := by decide +kernel
theorem dX5_scrollDown_1 : decode cX5_scrollDown 1 = .ok (.invokevirtual 77, 3) := by decide +kernel
theorem dX5_scrollDown_4 : decode cX5_scrollDown 4 = .ok (.aload_n 0, 1) := by decide +kernel
theorem dX5_scrollDown_5 : decode cX5_scrollDown 5 = .ok (.invokevirtual 111, 3) := by decide +kernel
theorem dX5_scrollDown_8 : decode cX5_scrollDown 8 = .ok (.aload_n 0, 1) := by decide +kernel
theorem dX5_scrollDown_9 : decode cX5_scrollDown 9 = .ok (.invokevirtual 114, 3) := by decide +kernel
theorem dX5_scrollDown_12 : decode cX5_scrollDown 12 = .ok (.iload_n 1, 1) := by decide +kernel
theorem dX5_scrollDown_13 : decode cX5_scrollDown 13 = .ok (.bipush 12, 2) := by decide +kernel
theorem dX5_scrollDown_15 : decode cX5_scrollDown 15 = .ok (.imul, 1) := by decide +kernel
theorem dX5_scrollDown_16 : decode cX5_scrollDown 16 = .ok (.invokevirtual 88, 3) := by decide +kernel
theorem dX5_scrollDown_19 : decode cX5_scrollDown 19 = .ok (.return_, 1) := by decide +kernel
theorem dX5_putInRows_0 : decode cX5_putInRows 0 = .ok (.aload_n 0, 1) := by decide +kernel
theorem dX5_putInRows_1 : decode cX5_putInRows 1 = .ok (.invokevirtual 120, 3) := by decide +kernel
theorem dX5_putInRows_4 : decode cX5_putInRows 4 = .ok (.ifCond .eq 22, 3) := by decide +kernel
theorem dX5_putInRows_7 : decode cX5_putInRows 7 = .ok (.aload_n 0, 1) := by decide +kernel
theorem dX5_putInRows_8 : decode cX5_putInRows 8 = .ok (.invokevirtual 77, 3) := by decide +kernel
theorem dX5_putInRows_11 : decode cX5_putInRows 11 = .ok (.aload_n 0, 1) := by decide +kernel
theorem dX5_putInRows_12 : decode cX5_putInRows 12 = .ok (.invokevirtual 124, 3) := by decide +kernel
theorem dX5_putInRows_15 : decode cX5_putInRows 15 = .ok (.aload_n 0, 1) := by decide +kernel
theorem dX5_putInRows_16 : decode cX5_putInRows 16 = .ok (.invokevirtual 114, 3) := by decide +kernel
theorem dX5_putInRows_19 : decode cX5_putInRows 19 = .ok (.iload_n 1, 1) := by decide +kernel
theorem dX5_putInRows_20 : decode cX5_putInRows 20 = .ok (.bipush 12, 2) := by decide +kernel
theorem dX5_putInRows_22 : decode cX5_putInRows 22 = .ok (.imul, 1) := by decide +kernel
theorem dX5_putInRows_23 : decode cX5_putInRows 23 = .ok (.invokevirtual 88, 3) := by decide +kernel
theorem dX5_putInRows_26 : decode cX5_putInRows 26 = .ok (.return_, 1) := by decide +kernel
theorem dX5_takeOutRows_0 : decode cX5_takeOutRows 0 = .ok (.aload_n 0, 1) := by decide +kernel
theorem dX5_takeOutRows_1 : decode cX5_takeOutRows 1 = .ok (.invokevirtual 120, 3) := by decide +kernel
theorem dX5_takeOutRows_4 : decode cX5_takeOutRows 4 = .ok (.ifCond .eq 22, 3) := by decide +kernel
theorem dX5_takeOutRows_7 : decode cX5_takeOutRows 7 = .ok (.aload_n 0, 1) := by decide +kernel
theorem dX5_takeOutRows_8 : decode cX5_takeOutRows 8 = .ok (.invokevirtual 77, 3) := by decide +kernel
theorem dX5_takeOutRows_11 : decode cX5_takeOutRows 11 = .ok (.aload_n 0, 1) := by decide +kernel
theorem dX5_takeOutRows_12 : decode cX5_takeOutRows 12 = .ok (.invokevirtual 124, 3) := by decide +kernel
theorem dX5_takeOutRows_15 : decode cX5_takeOutRows 15 = .ok (.aload_n 0, 1) := by decide +kernel
theorem dX5_takeOutRows_16 : decode cX5_takeOutRows 16 = .ok (.invokevirtual 114, 3) := by decide +kernel
theorem dX5_takeOutRows_19 : decode cX5_takeOutRows 19 = .ok (.iload_n 1, 1) := by decide +kernel
theorem dX5_takeOutRows_20 : decode cX5_takeOutRows 20 = .ok (.bipush 12, 2) := by decide +kernel
theorem dX5_takeOutRows_22 : decode cX5_takeOutRows 22 = .ok (.imul, 1) := by decide +kernel
theorem dX5_takeOutRows_23 : decode cX5_takeOutRows 23 = .ok (.invokevirtual 117, 3) := by decide +kernel
theorem dX5_takeOutRows_26 : decode cX5_takeOutRows 26 = .ok (.return_, 1) := by decide +kernel
theorem dX5_putInCells_0 : decode cX5_putInCells 0 = .ok (.aload_n 0, 1) := by decide +kernel
theorem dX5_putInCells_1 : decode cX5_putInCells 1 = .ok (.invokevirtual 77, 3) := by decide +kernel
theorem dX5_putInCells_4 : decode cX5_putInCells 4 = .ok (.aload_n 0, 1) := by decide +kernel
theorem dX5_putInCells_5 : decode cX5_putInCells 5 = .ok (.invokevirtual 81, 3) := by decide +kernel
theorem dX5_putInCells_8 : decode cX5_putInCells 8 = .ok (.aload_n 0, 1) := by decide +kernel
theorem dX5_putInCells_9 : decode cX5_putInCells 9 = .ok (.invokevirtual 85, 3) := by decide +kernel
theorem dX5_putInCells_12 : decode cX5_putInCells 12 = .ok (.iload_n 1, 1) := by decide +kernel
theorem dX5_putInCells_13 : decode cX5_putInCells 13 = .ok (.invokevirtual 88, 3) := by decide +kernel
theorem dX5_putInCells_16 : decode cX5_putInCells 16 = .ok (.return_, 1) := by decide +kernel
theorem dX5_takeOutCells_0 : decode cX5_takeOutCells 0 = .ok (.aload_n 0, 1) := by decide +kernel
theorem dX5_takeOutCells_1 : decode cX5_takeOutCells 1 = .ok (.invokevirtual 77, 3) := by decide +kernel
theorem dX5_takeOutCells_4 : decode cX5_takeOutCells 4 = .ok (.aload_n 0, 1) := by decide +kernel
theorem dX5_takeOutCells_5 : decode cX5_takeOutCells 5 = .ok (.invokevirtual 81, 3) := by decide +kernel
theorem dX5_takeOutCells_8 : decode cX5_takeOutCells 8 = .ok (.aload_n 0, 1) := by decide +kernel
theorem dX5_takeOutCells_9 : decode cX5_takeOutCells 9 = .ok (.invokevirtual 85, 3) := by decide +kernel
theorem dX5_takeOutCells_12 : decode cX5_takeOutCells 12 = .ok (.iload_n 1, 1) := by decide +kernel
theorem dX5_takeOutCells_13 : decode cX5_takeOutCells 13 = .ok (.invokevirtual 117, 3) := by decide +kernel
theorem dX5_takeOutCells_16 : decode cX5_takeOutCells 16 = .ok (.return_, 1) := by decide +kernel
theorem dX5_clearCells_0 : decode cX5_clearCells 0 = .ok (.aload_n 0, 1) := by decide +kernel
theorem dX5_clearCells_1 : decode cX5_clearCells 1 = .ok (.invokevirtual 77, 3) := by decide +kernel
theorem dX5_clearCells_4 : decode cX5_clearCells 4 = .ok (.aload_n 0, 1) := by decide +kernel
theorem dX5_clearCells_5 : decode cX5_clearCells 5 = .ok (.invokevirtual 81, 3) := by decide +kernel
theorem dX5_clearCells_8 : decode cX5_clearCells 8 = .ok (.aload_n 0, 1) := by decide +kernel
theorem dX5_clearCells_9 : decode cX5_clearCells 9 = .ok (.invokevirtual 81, 3) := by decide +kernel
theorem dX5_clearCells_12 : decode cX5_clearCells 12 = .ok (.iload_n 1, 1) := by decide +kernel
theorem dX5_clearCells_13 : decode cX5_clearCells 13 = .ok (.iadd, 1) := by decide +kernel
theorem dX5_clearCells_14 : decode cX5_clearCells 14 = .ok (.iconst 1, 1) := by decide +kernel
theorem dX5_clearCells_15 : decode cX5_clearCells 15 = .ok (.isub, 1) := by decide +kernel
theorem dX5_clearCells_16 : decode cX5_clearCells 16 = .ok (.aload_n 0, 1) := by decide +kernel
theorem dX5_clearCells_17 : decode cX5_clearCells 17 = .ok (.invokevirtual 85, 3) := by decide +kernel
theorem dX5_clearCells_20 : decode cX5_clearCells 20 = .ok (.invokestatic 98, 3) := by decide +kernel
theorem dX5_clearCells_23 : decode cX5_clearCells 23 = .ok (.invokevirtual 31, 3) := by decide +kernel
theorem dX5_clearCells_26 : decode cX5_clearCells 26 = .ok (.return_, 1) := by decide +kernel
theorem dX5_clearInPage_0 : decode cX5_clearInPage 0 = .ok (.aload_n 0, 1) := by decide +kernel
theorem dX5_clearInPage_1 : decode cX5_clearInPage 1 = .ok (.iconst 0, 1) := by decide +kernel
theorem dX5_clearInPage_2 : decode cX5_clearInPage 2 = .ok (.bipush 95, 2) := by decide +kernel
theorem dX5_clearInPage_4 : decode cX5_clearInPage 4 = .ok (.iload_n 1, 1) := by decide +kernel
theorem dX5_clearInPage_5 : decode cX5_clearInPage 5 = .ok (.invokevirtual 127, 3) := by decide +kernel
theorem dX5_clearInPage_8 : decode cX5_clearInPage 8 = .ok (.return_, 1) := by decide +kernel
theorem dX5_clearInRow_0 : decode cX5_clearInRow 0 = .ok (.aload_n 0, 1) := by decide +kernel
theorem dX5_clearInRow_1 : decode cX5_clearInRow 1 = .ok (.aload_n 0, 1) := by decide +kernel
theorem dX5_clearInRow_2 : decode cX5_clearInRow 2 = .ok (.invokevirtual 124, 3) := by decide +kernel
theorem dX5_clearInRow_5 : decode cX5_clearInRow 5 = .ok (.aload_n 0, 1) := by decide +kernel
theorem dX5_clearInRow_6 : decode cX5_clearInRow 6 = .ok (.invokevirtual 85, 3) := by decide +kernel
theorem dX5_clearInRow_9 : decode cX5_clearInRow 9 = .ok (.iload_n 1, 1) := by decide +kernel
theorem dX5_clearInRow_10 : decode cX5_clearInRow 10 = .ok (.invokevirtual 127, 3) := by decide +kernel
theorem dX5_clearInRow_13 : decode cX5_clearInRow 13 = .ok (.return_, 1) := by decide +kernel
theorem dX5_clearWithin_0 : decode cX5_clearWithin 0 = .ok (.iload_n 3, 1) := by decide +kernel
theorem dX5_clearWithin_1 : decode cX5_clearWithin 1 = .ok (.tableswitch 69 0 2 #[27, 42, 57], 27) := by decide +kernel
theorem dX5_clearWithin_28 : decode cX5_clearWithin 28 = .ok (.aload_n 0, 1) := by decide +kernel
theorem dX5_clearWithin_29 : decode cX5_clearWithin 29 = .ok (.invokevirtual 77, 3) := by decide +kernel
theorem dX5_clearWithin_32 : decode cX5_clearWithin 32 = .ok (.aload_n 0, 1) := by decide +kernel
theorem dX5_clearWithin_33 : decode cX5_clearWithin 33 = .ok (.invokevirtual 81, 3) := by decide +kernel
theorem dX5_clearWithin_36 : decode cX5_clearWithin 36 = .ok (.iload_n 2, 1) := by decide +kernel
theorem dX5_clearWithin_37 : decode cX5_clearWithin 37 = .ok (.invokevirtual 31, 3) := by decide +kernel
theorem dX5_clearWithin_40 : decode cX5_clearWithin 40 = .ok (.goto 30, 3) := by decide +kernel
theorem dX5_clearWithin_43 : decode cX5_clearWithin 43 = .ok (.aload_n 0, 1) := by decide +kernel
theorem dX5_clearWithin_44 : decode cX5_clearWithin 44 = .ok (.invokevirtual 77, 3) := by decide +kernel
theorem dX5_clearWithin_47 : decode cX5_clearWithin 47 = .ok (.iload_n 1, 1) := by decide +kernel
theorem dX5_clearWithin_48 : decode cX5_clearWithin 48 = .ok (.aload_n 0, 1) := by decide +kernel
theorem dX5_clearWithin_49 : decode cX5_clearWithin 49 = .ok (.invokevirtual 81, 3) := by decide +kernel
theorem dX5_clearWithin_52 : decode cX5_clearWithin 52 = .ok (.invokevirtual 31, 3) := by decide +kernel
theorem dX5_clearWithin_55 : decode cX5_clearWithin 55 = .ok (.goto 15, 3) := by decide +kernel
theorem dX5_clearWithin_58 : decode cX5_clearWithin 58 = .ok (.aload_n 0, 1) := by decide +kernel
theorem dX5_clearWithin_59 : decode cX5_clearWithin 59 = .ok (.invokevirtual 77, 3) := by decide +kernel
theorem dX5_clearWithin_62 : decode cX5_clearWithin 62 = .ok (.iload_n 1, 1) := by decide +kernel
theorem dX5_clearWithin_63 : decode cX5_clearWithin 63 = .ok (.iload_n 2, 1) := by decide +kernel
theorem dX5_clearWithin_64 : decode cX5_clearWithin 64 = .ok (.invokevirtual 31, 3) := by decide +kernel
theorem dX5_clearWithin_67 : decode cX5_clearWithin 67 = .ok (.goto 3, 3) := by decide +kernel
theorem dX5_clearWithin_70 : decode cX5_clearWithin 70 = .ok (.return_, 1) := by decide +kernel
theorem dX5_moveUp_0 : decode cX5_moveUp 0 = .ok (.aload_n 0, 1) := by decide +kernel
theorem dX5_moveUp_1 : decode cX5_moveUp 1 = .ok (.getfield 24, 3) := by decide +kernel
theorem dX5_moveUp_4 : decode cX5_moveUp 4 = .ok (.getfield 108, 3) := by decide +kernel
theorem dX5_moveUp_7 : decode cX5_moveUp 7 = .ok (.aload_n 0, 1) := by decide +kernel
theorem dX5_moveUp_8 : decode cX5_moveUp 8 = .ok (.getfield 38, 3) := by decide +kernel
theorem dX5_moveUp_11 : decode cX5_moveUp 11 = .ok (.if_icmp .lt 10, 3) := by decide +kernel
theorem dX5_moveUp_14 : decode cX5_moveUp 14 = .ok (.aload_n 0, 1) := by decide +kernel
theorem dX5_moveUp_15 : decode cX5_moveUp 15 = .ok (.getfield 38, 3) := by decide +kernel
theorem dX5_moveUp_18 : decode cX5_moveUp 18 = .ok (.goto 4, 3) := by decide +kernel
theorem dX5_moveUp_21 : decode cX5_moveUp 21 = .ok (.iconst 0, 1) := by decide +kernel
theorem dX5_moveUp_22 : decode cX5_moveUp 22 = .ok (.istore_n 2, 1) := by decide +kernel
theorem dX5_moveUp_23 : decode cX5_moveUp 23 = .ok (.aload_n 0, 1) := by decide +kernel
theorem dX5_moveUp_24 : decode cX5_moveUp 24 = .ok (.getfield 24, 3) := by decide +kernel
theorem dX5_moveUp_27 : decode cX5_moveUp 27 = .ok (.iload_n 2, 1) := by decide +kernel
theorem dX5_moveUp_28 : decode cX5_moveUp 28 = .ok (.aload_n 0, 1) := by decide +kernel
theorem dX5_moveUp_29 : decode cX5_moveUp 29 = .ok (.getfield 24, 3) := by decide +kernel
theorem dX5_moveUp_32 : decode cX5_moveUp 32 = .ok (.getfield 108, 3) := by decide +kernel
theorem dX5_moveUp_35 : decode cX5_moveUp 35 = .ok (.iload_n 1, 1) := by decide +kernel
theorem dX5_moveUp_36 : decode cX5_moveUp 36 = .ok (.isub, 1) := by decide +kernel
theorem dX5_moveUp_37 : decode cX5_moveUp 37 = .ok (.invokestatic 130, 3) := by decide +kernel
theorem dX5_moveUp_40 : decode cX5_moveUp 40 = .ok (.aload_n 0, 1) := by decide +kernel
theorem dX5_moveUp_41 : decode cX5_moveUp 41 = .ok (.getfield 24, 3) := by decide +kernel
theorem dX5_moveUp_44 : decode cX5_moveUp 44 = .ok (.getfield 71, 3) := by decide +kernel
theorem dX5_moveUp_47 : decode cX5_moveUp 47 = .ok (.invokevirtual 133, 3) := by decide +kernel
theorem dX5_moveUp_50 : decode cX5_moveUp 50 = .ok (.return_, 1) := by decide +kernel
theorem dX5_moveDown_0 : decode cX5_moveDown 0 = .ok (.aload_n 0, 1) := by decide +kernel
theorem dX5_moveDown_1 : decode cX5_moveDown 1 = .ok (.getfield 24, 3) := by decide +kernel
theorem dX5_moveDown_4 : decode cX5_moveDown 4 = .ok (.getfield 108, 3) := by decide +kernel
theorem dX5_moveDown_7 : decode cX5_moveDown 7 = .ok (.aload_n 0, 1) := by decide +kernel
theorem dX5_moveDown_8 : decode cX5_moveDown 8 = .ok (.getfield 42, 3) := by decide +kernel
theorem dX5_moveDown_11 : decode cX5_moveDown 11 = .ok (.if_icmp .gt 10, 3) := by decide +kernel
theorem dX5_moveDown_14 : decode cX5_moveDown 14 = .ok (.aload_n 0, 1) := by decide +kernel
theorem dX5_moveDown_15 : decode cX5_moveDown 15 = .ok (.getfield 42, 3) := by decide +kernel
theorem dX5_moveDown_18 : decode cX5_moveDown 18 = .ok (.goto 5, 3) := by decide +kernel
theorem dX5_moveDown_21 : decode cX5_moveDown 21 = .ok (.bipush 7, 2) := by decide +kernel
theorem dX5_moveDown_23 : decode cX5_moveDown 23 = .ok (.istore_n 2, 1) := by decide +kernel
theorem dX5_moveDown_24 : decode cX5_moveDown 24 = .ok (.aload_n 0, 1) := by decide +kernel
theorem dX5_moveDown_25 : decode cX5_moveDown 25 = .ok (.getfield 24, 3) := by decide +kernel
theorem dX5_moveDown_28 : decode cX5_moveDown 28 = .ok (.iload_n 2, 1) := by decide +kernel
theorem dX5_moveDown_29 : decode cX5_moveDown 29 = .ok (.aload_n 0, 1) := by decide +kernel
theorem dX5_moveDown_30 : decode cX5_moveDown 30 = .ok (.getfield 24, 3) := by decide +kernel
theorem dX5_moveDown_33 : decode cX5_moveDown 33 = .ok (.getfield 108, 3) := by decide +kernel
theorem dX5_moveDown_36 : decode cX5_moveDown 36 = .ok (.iload_n 1, 1) := by decide +kernel
theorem dX5_moveDown_37 : decode cX5_moveDown 37 = .ok (.iadd, 1) := by decide +kernel
theorem dX5_moveDown_38 : decode cX5_moveDown 38 = .ok (.invokestatic 98, 3) := by decide +kernel
theorem dX5_moveDown_41 : decode cX5_moveDown 41 = .ok (.aload_n 0, 1) := by decide +kernel
theorem dX5_moveDown_42 : decode cX5_moveDown 42 = .ok (.getfield 24, 3) := by decide +kernel
theorem dX5_moveDown_45 : decode cX5_moveDown 45 = .ok (.getfield 71, 3) := by decide +kernel
theorem dX5_moveDown_48 : decode cX5_moveDown 48 = .ok (.invokevirtual 133, 3) := by decide +kernel
theorem dX5_moveDown_51 : decode cX5_moveDown 51 = .ok (.return_, 1) := by decide +kernel
theorem dX5_moveLeft_0 : decode cX5_moveLeft 0 = .ok (.aload_n 0, 1) := by decide +kernel
theorem dX5_moveLeft_1 : decode cX5_moveLeft 1 = .ok (.iconst 0, 1) := by decide +kernel
theorem dX5_moveLeft_2 : decode cX5_moveLeft 2 = .ok (.aload_n 0, 1) := by decide +kernel
theorem dX5_moveLeft_3 : decode cX5_moveLeft 3 = .ok (.getfield 24, 3) := by decide +kernel
theorem dX5_moveLeft_6 : decode cX5_moveLeft 6 = .ok (.getfield 71, 3) := by decide +kernel
theorem dX5_moveLeft_9 : decode cX5_moveLeft 9 = .ok (.iload_n 1, 1) := by decide +kernel
theorem dX5_moveLeft_10 : decode cX5_moveLeft 10 = .ok (.isub, 1) := by decide +kernel
theorem dX5_moveLeft_11 : decode cX5_moveLeft 11 = .ok (.invokestatic 130, 3) := by decide +kernel
theorem dX5_moveLeft_14 : decode cX5_moveLeft 14 = .ok (.invokevirtual 136, 3) := by decide +kernel
theorem dX5_moveLeft_17 : decode cX5_moveLeft 17 = .ok (.return_, 1) := by decide +kernel
theorem dX5_moveRight_0 : decode cX5_moveRight 0 = .ok (.aload_n 0, 1) := by decide +kernel
theorem dX5_moveRight_1 : decode cX5_moveRight 1 = .ok (.aload_n 0, 1) := by decide +kernel
theorem dX5_moveRight_2 : decode cX5_moveRight 2 = .ok (.getfield 24, 3) := by decide +kernel
theorem dX5_moveRight_5 : decode cX5_moveRight 5 = .ok (.getfield 71, 3) := by decide +kernel
theorem dX5_moveRight_8 : decode cX5_moveRight 8 = .ok (.iload_n 1, 1) := by decide +kernel
theorem dX5_moveRight_9 : decode cX5_moveRight 9 = .ok (.iadd, 1) := by decide +kernel
theorem dX5_moveRight_10 : decode cX5_moveRight 10 = .ok (.invokevirtual 136, 3) := by decide +kernel
theorem dX5_moveRight_13 : decode cX5_moveRight 13 = .ok (.return_, 1) := by decide +kernel
theorem dX5_moveToColumn_0 : decode cX5_moveToColumn 0 = .ok (.aload_n 0, 1) := by decide +kernel
theorem dX5_moveToColumn_1 : decode cX5_moveToColumn 1 = .ok (.getfield 24, 3) := by decide +kernel
theorem dX5_moveToColumn_4 : decode cX5_moveToColumn 4 = .ok (.aload_n 0, 1) := by decide +kernel
theorem dX5_moveToColumn_5 : decode cX5_moveToColumn 5 = .ok (.getfield 24, 3) := by decide +kernel
theorem dX5_moveToColumn_8 : decode cX5_moveToColumn 8 = .ok (.getfield 108, 3) := by decide +kernel
theorem dX5_moveToColumn_11 : decode cX5_moveToColumn 11 = .ok (.bipush 11, 2) := by decide +kernel
theorem dX5_moveToColumn_13 : decode cX5_moveToColumn 13 = .ok (.iload_n 1, 1) := by decide +kernel
theorem dX5_moveToColumn_14 : decode cX5_moveToColumn 14 = .ok (.invokestatic 98, 3) := by decide +kernel
theorem dX5_moveToColumn_17 : decode cX5_moveToColumn 17 = .ok (.invokevirtual 133, 3) := by decide +kernel
theorem dX5_moveToColumn_20 : decode cX5_moveToColumn 20 = .ok (.return_, 1) := by decide +kernel
theorem dX5_moveToRow_0 : decode cX5_moveToRow 0 = .ok (.aload_n 0, 1) := by decide +kernel
theorem dX5_moveToRow_1 : decode cX5_moveToRow 1 = .ok (.getfield 24, 3) := by decide +kernel
theorem dX5_moveToRow_4 : decode cX5_moveToRow 4 = .ok (.bipush 7, 2) := by decide +kernel
theorem dX5_moveToRow_6 : decode cX5_moveToRow 6 = .ok (.iload_n 1, 1) := by decide +kernel
theorem dX5_moveToRow_7 : decode cX5_moveToRow 7 = .ok (.invokestatic 98, 3) := by decide +kernel
theorem dX5_moveToRow_10 : decode cX5_moveToRow 10 = .ok (.aload_n 0, 1) := by decide +kernel
theorem dX5_moveToRow_11 : decode cX5_moveToRow 11 = .ok (.getfield 24, 3) := by decide +kernel
theorem dX5_moveToRow_14 : decode cX5_moveToRow 14 = .ok (.getfield 71, 3) := by decide +kernel
theorem dX5_moveToRow_17 : decode cX5_moveToRow 17 = .ok (.invokevirtual 133, 3) := by decide +kernel
theorem dX5_moveToRow_20 : decode cX5_moveToRow 20 = .ok (.return_, 1) := by decide +kernel
theorem dX5_moveTo_0 : decode cX5_moveTo 0 = .ok (.aload_n 0, 1) := by decide +kernel
theorem dX5_moveTo_1 : decode cX5_moveTo 1 = .ok (.getfield 24, 3) := by decide +kernel
theorem dX5_moveTo_4 : decode cX5_moveTo 4 = .ok (.getfield 139, 3) := by decide +kernel
theorem dX5_moveTo_7 : decode cX5_moveTo 7 = .ok (.ifCond .eq 12, 3) := by decide +kernel
theorem dX5_moveTo_10 : decode cX5_moveTo 10 = .ok (.aload_n 0, 1) := by decide +kernel
theorem dX5_moveTo_11 : decode cX5_moveTo 11 = .ok (.getfield 38, 3) := by decide +kernel
theorem dX5_moveTo_14 : decode cX5_moveTo 14 = .ok (.iload_n 1, 1) := by decide +kernel
theorem dX5_moveTo_15 : decode cX5_moveTo 15 = .ok (.iadd, 1) := by decide +kernel
theorem dX5_moveTo_16 : decode cX5_moveTo 16 = .ok (.goto 4, 3) := by decide +kernel
theorem dX5_moveTo_19 : decode cX5_moveTo 19 = .ok (.iload_n 1, 1) := by decide +kernel
theorem dX5_moveTo_20 : decode cX5_moveTo 20 = .ok (.istore_n 3, 1) := by decide +kernel
theorem dX5_moveTo_21 : decode cX5_moveTo 21 = .ok (.aload_n 0, 1) := by decide +kernel
theorem dX5_moveTo_22 : decode cX5_moveTo 22 = .ok (.getfield 24, 3) := by decide +kernel
theorem dX5_moveTo_25 : decode cX5_moveTo 25 = .ok (.getfield 139, 3) := by decide +kernel
theorem dX5_moveTo_28 : decode cX5_moveTo 28 = .ok (.ifCond .eq 10, 3) := by decide +kernel
theorem dX5_moveTo_31 : decode cX5_moveTo 31 = .ok (.aload_n 0, 1) := by decide +kernel
theorem dX5_moveTo_32 : decode cX5_moveTo 32 = .ok (.getfield 42, 3) := by decide +kernel
theorem dX5_moveTo_35 : decode cX5_moveTo 35 = .ok (.goto 5, 3) := by decide +kernel
theorem dX5_moveTo_38 : decode cX5_moveTo 38 = .ok (.bipush 7, 2) := by decide +kernel
theorem dX5_moveTo_40 : decode cX5_moveTo 40 = .ok (.istore 4, 2) := by decide +kernel
theorem dX5_moveTo_42 : decode cX5_moveTo 42 = .ok (.aload_n 0, 1) := by decide +kernel
theorem dX5_moveTo_43 : decode cX5_moveTo 43 = .ok (.getfield 24, 3) := by decide +kernel
theorem dX5_moveTo_46 : decode cX5_moveTo 46 = .ok (.iload 4, 2) := by decide +kernel
theorem dX5_moveTo_48 : decode cX5_moveTo 48 = .ok (.iload_n 3, 1) := by decide +kernel
theorem dX5_moveTo_49 : decode cX5_moveTo 49 = .ok (.invokestatic 98, 3) := by decide +kernel
theorem dX5_moveTo_52 : decode cX5_moveTo 52 = .ok (.bipush 11, 2) := by decide +kernel
theorem dX5_moveTo_54 : decode cX5_moveTo 54 = .ok (.iload_n 2, 1) := by decide +kernel
theorem dX5_moveTo_55 : decode cX5_moveTo 55 = .ok (.invokestatic 98, 3) := by decide +kernel
theorem dX5_moveTo_58 : decode cX5_moveTo 58 = .ok (.invokevirtual 133, 3) := by decide +kernel
theorem dX5_moveTo_61 : decode cX5_moveTo 61 = .ok (.return_, 1) := by decide +kernel
theorem dX5_moveToTabStop_0 : decode cX5_moveToTabStop 0 = .ok (.aload_n 0, 1) := by decide +kernel
theorem dX5_moveToTabStop_1 : decode cX5_moveToTabStop 1 = .ok (.getfield 24, 3) := by decide +kernel
theorem dX5_moveToTabStop_4 : decode cX5_moveToTabStop 4 = .ok (.getfield 71, 3) := by decide +kernel
theorem dX5_moveToTabStop_7 : decode cX5_moveToTabStop 7 = .ok (.iconst 1, 1) := by decide +kernel
theorem dX5_moveToTabStop_8 : decode cX5_moveToTabStop 8 = .ok (.iadd, 1) := by decide +kernel
theorem dX5_moveToTabStop_9 : decode cX5_moveToTabStop 9 = .ok (.istore_n 1, 1) := by decide +kernel
theorem dX5_moveToTabStop_10 : decode cX5_moveToTabStop 10 = .ok (.iload_n 1, 1) := by decide +kernel
theorem dX5_moveToTabStop_11 : decode cX5_moveToTabStop 11 = .ok (.bipush 11, 2) := by decide +kernel
theorem dX5_moveToTabStop_13 : decode cX5_moveToTabStop 13 = .ok (.if_icmp .ge 17, 3) := by decide +kernel
theorem dX5_moveToTabStop_16 : decode cX5_moveToTabStop 16 = .ok (.aload_n 0, 1) := by decide +kernel
theorem dX5_moveToTabStop_17 : decode cX5_moveToTabStop 17 = .ok (.iload_n 1, 1) := by decide +kernel
theorem dX5_moveToTabStop_18 : decode cX5_moveToTabStop 18 = .ok (.invokevirtual 142, 3) := by decide +kernel
theorem dX5_moveToTabStop_21 : decode cX5_moveToTabStop 21 = .ok (.ifCond .ne 9, 3) := by decide +kernel
theorem dX5_moveToTabStop_24 : decode cX5_moveToTabStop 24 = .ok (.iinc 1 1, 3) := by decide +kernel
theorem dX5_moveToTabStop_27 : decode cX5_moveToTabStop 27 = .ok (.goto (-17), 3) := by decide +kernel
theorem dX5_moveToTabStop_30 : decode cX5_moveToTabStop 30 = .ok (.aload_n 0, 1) := by decide +kernel
theorem dX5_moveToTabStop_31 : decode cX5_moveToTabStop 31 = .ok (.iload_n 1, 1) := by decide +kernel
theorem dX5_moveToTabStop_32 : decode cX5_moveToTabStop 32 = .ok (.invokevirtual 136, 3) := by decide +kernel
theorem dX5_moveToTabStop_35 : decode cX5_moveToTabStop 35 = .ok (.return_, 1) := by decide +kernel
theorem dX5_hasTabStop_0 : decode cX5_hasTabStop 0 = .ok (.iload_n 1, 1) := by decide +kernel
theorem dX5_hasTabStop_1 : decode cX5_hasTabStop 1 = .ok (.ifCond .lt 25, 3) := by decide +kernel
theorem dX5_hasTabStop_4 : decode cX5_hasTabStop 4 = .ok (.iload_n 1, 1) := by decide +kernel
theorem dX5_hasTabStop_5 : decode cX5_hasTabStop 5 = .ok (.bipush 12, 2) := by decide +kernel
theorem dX5_hasTabStop_7 : decode cX5_hasTabStop 7 = .ok (.if_icmp .ge 19, 3) := by decide +kernel
theorem dX5_hasTabStop_10 : decode cX5_hasTabStop 10 = .ok (.aload_n 0, 1) := by decide +kernel
theorem dX5_hasTabStop_11 : decode cX5_hasTabStop 11 = .ok (.getfield 45, 3) := by decide +kernel
theorem dX5_hasTabStop_14 : decode cX5_hasTabStop 14 = .ok (.iload_n 1, 1) := by decide +kernel
theorem dX5_hasTabStop_15 : decode cX5_hasTabStop 15 = .ok (.ishr, 1) := by decide +kernel
theorem dX5_hasTabStop_16 : decode cX5_hasTabStop 16 = .ok (.iconst 1, 1) := by decide +kernel
theorem dX5_hasTabStop_17 : decode cX5_hasTabStop 17 = .ok (.iand, 1) := by decide +kernel
theorem dX5_hasTabStop_18 : decode cX5_hasTabStop 18 = .ok (.iconst 1, 1) := by decide +kernel
theorem dX5_hasTabStop_19 : decode cX5_hasTabStop 19 = .ok (.if_icmp .ne 7, 3) := by decide +kernel
theorem dX5_hasTabStop_22 : decode cX5_hasTabStop 22 = .ok (.iconst 1, 1) := by decide +kernel
theorem dX5_hasTabStop_23 : decode cX5_hasTabStop 23 = .ok (.goto 4, 3) := by decide +kernel
theorem dX5_hasTabStop_26 : decode cX5_hasTabStop 26 = .ok (.iconst 0, 1) := by decide +kernel
theorem dX5_hasTabStop_27 : decode cX5_hasTabStop 27 = .ok (.ireturn, 1) := by decide +kernel
theorem dX5_setTabStop_0 : decode cX5_setTabStop 0 = .ok (.aload_n 0, 1) := by decide +kernel
theorem dX5_setTabStop_1 : decode cX5_setTabStop 1 = .ok (.dup, 1) := by decide +kernel
theorem dX5_setTabStop_2 : decode cX5_setTabStop 2 = .ok (.getfield 45, 3) := by decide +kernel
theorem dX5_setTabStop_5 : decode cX5_setTabStop 5 = .ok (.iconst 1, 1) := by decide +kernel
theorem dX5_setTabStop_6 : decode cX5_setTabStop 6 = .ok (.aload_n 0, 1) := by decide +kernel
theorem dX5_setTabStop_7 : decode cX5_setTabStop 7 = .ok (.getfield 24, 3) := by decide +kernel
theorem dX5_setTabStop_10 : decode cX5_setTabStop 10 = .ok (.getfield 71, 3) := by decide +kernel
theorem dX5_setTabStop_13 : decode cX5_setTabStop 13 = .ok (.ishl, 1) := by decide +kernel
theorem dX5_setTabStop_14 : decode cX5_setTabStop 14 = .ok (.ior, 1) := by decide +kernel
theorem dX5_setTabStop_15 : decode cX5_setTabStop 15 = .ok (.putfield 45, 3) := by decide +kernel
theorem dX5_setTabStop_18 : decode cX5_setTabStop 18 = .ok (.return_, 1) := by decide +kernel
theorem dX5_removeTabStops_0 : decode cX5_removeTabStops 0 = .ok (.iload_n 1, 1) := by decide +kernel
theorem dX5_removeTabStops_1 : decode cX5_removeTabStops 1 = .ok (.ifCond .ne 26, 3) := by decide +kernel
theorem dX5_removeTabStops_4 : decode cX5_removeTabStops 4 = .ok (.aload_n 0, 1) := by decide +kernel
theorem dX5_removeTabStops_5 : decode cX5_removeTabStops 5 = .ok (.dup, 1) := by decide +kernel
theorem dX5_removeTabStops_6 : decode cX5_removeTabStops 6 = .ok (.getfield 45, 3) := by decide +kernel
theorem dX5_removeTabStops_9 : decode cX5_removeTabStops 9 = .ok (.iconst 1, 1) := by decide +kernel
theorem dX5_removeTabStops_10 : decode cX5_removeTabStops 10 = .ok (.aload_n 0, 1) := by decide +kernel
theorem dX5_removeTabStops_11 : decode cX5_removeTabStops 11 = .ok (.getfield 24, 3) := by decide +kernel
theorem dX5_removeTabStops_14 : decode cX5_removeTabStops 14 = .ok (.getfield 71, 3) := by decide +kernel
theorem dX5_removeTabStops_17 : decode cX5_removeTabStops 17 = .ok (.ishl, 1) := by decide +kernel
theorem dX5_removeTabStops_18 : decode cX5_removeTabStops 18 = .ok (.iconst (-1), 1) := by decide +kernel
theorem dX5_removeTabStops_19 : decode cX5_removeTabStops 19 = .ok (.ixor, 1) := by decide +kernel
theorem dX5_removeTabStops_20 : decode cX5_removeTabStops 20 = .ok (.iand, 1) := by decide +kernel
theorem dX5_removeTabStops_21 : decode cX5_removeTabStops 21 = .ok (.putfield 45, 3) := by decide +kernel
theorem dX5_removeTabStops_24 : decode cX5_removeTabStops 24 = .ok (.goto 13, 3) := by decide +kernel
theorem dX5_removeTabStops_27 : decode cX5_removeTabStops 27 = .ok (.iload_n 1, 1) := by decide +kernel
theorem dX5_removeTabStops_28 : decode cX5_removeTabStops 28 = .ok (.iconst 3, 1) := by decide +kernel
theorem dX5_removeTabStops_29 : decode cX5_removeTabStops 29 = .ok (.if_icmp .ne 8, 3) := by decide +kernel
theorem dX5_removeTabStops_32 : decode cX5_removeTabStops 32 = .ok (.aload_n 0, 1) := by decide +kernel
theorem dX5_removeTabStops_33 : decode cX5_removeTabStops 33 = .ok (.iconst 0, 1) := by decide +kernel
theorem dX5_removeTabStops_34 : decode cX5_removeTabStops 34 = .ok (.putfield 45, 3) := by decide +kernel
theorem dX5_removeTabStops_37 : decode cX5_removeTabStops 37 = .ok (.return_, 1) := by decide +kernel
theorem dX5_setRegion_0 : decode cX5_setRegion 0 = .ok (.iload_n 1, 1) := by decide +kernel
theorem dX5_setRegion_1 : decode cX5_setRegion 1 = .ok (.iload_n 2, 1) := by decide +kernel
theorem dX5_setRegion_2 : decode cX5_setRegion 2 = .ok (.if_icmp .ge 25, 3) := by decide +kernel
theorem dX5_setRegion_5 : decode cX5_setRegion 5 = .ok (.iload_n 2, 1) := by decide +kernel
theorem dX5_setRegion_6 : decode cX5_setRegion 6 = .ok (.bipush 7, 2) := by decide +kernel
theorem dX5_setRegion_8 : decode cX5_setRegion 8 = .ok (.if_icmp .gt 19, 3) := by decide +kernel
theorem dX5_setRegion_11 : decode cX5_setRegion 11 = .ok (.aload_n 0, 1) := by decide +kernel
theorem dX5_setRegion_12 : decode cX5_setRegion 12 = .ok (.iload_n 1, 1) := by decide +kernel
theorem dX5_setRegion_13 : decode cX5_setRegion 13 = .ok (.putfield 38, 3) := by decide +kernel
theorem dX5_setRegion_16 : decode cX5_setRegion 16 = .ok (.aload_n 0, 1) := by decide +kernel
theorem dX5_setRegion_17 : decode cX5_setRegion 17 = .ok (.iload_n 2, 1) := by decide +kernel
theorem dX5_setRegion_18 : decode cX5_setRegion 18 = .ok (.putfield 42, 3) := by decide +kernel
theorem dX5_setRegion_21 : decode cX5_setRegion 21 = .ok (.aload_n 0, 1) := by decide +kernel
theorem dX5_setRegion_22 : decode cX5_setRegion 22 = .ok (.iconst 0, 1) := by decide +kernel
theorem dX5_setRegion_23 : decode cX5_setRegion 23 = .ok (.iconst 0, 1) := by decide +kernel
theorem dX5_setRegion_24 : decode cX5_setRegion 24 = .ok (.invokevirtual 146, 3) := by decide +kernel
theorem dX5_setRegion_27 : decode cX5_setRegion 27 = .ok (.return_, 1) := by decide +kernel
theorem dX5_switchPrivate_0 : decode cX5_switchPrivate 0 = .ok (.iload_n 1, 1) := by decide +kernel
theorem dX5_switchPrivate_1 : decode cX5_switchPrivate 1 = .ok (.lookupswitch 68 #[(6, 35), (7, 52), (47, 60)], 35) := by decide +kernel
theorem dX5_switchPrivate_36 : decode cX5_switchPrivate 36 = .ok (.aload_n 0, 1) := by decide +kernel
theorem dX5_switchPrivate_37 : decode cX5_switchPrivate 37 = .ok (.getfield 24, 3) := by decide +kernel
theorem dX5_switchPrivate_40 : decode cX5_switchPrivate 40 = .ok (.iload_n 2, 1) := by decide +kernel
theorem dX5_switchPrivate_41 : decode cX5_switchPrivate 41 = .ok (.putfield 139, 3) := by decide +kernel
theorem dX5_switchPrivate_44 : decode cX5_switchPrivate 44 = .ok (.aload_n 0, 1) := by decide +kernel
theorem dX5_switchPrivate_45 : decode cX5_switchPrivate 45 = .ok (.iconst 0, 1) := by decide +kernel
theorem dX5_switchPrivate_46 : decode cX5_switchPrivate 46 = .ok (.iconst 0, 1) := by decide +kernel
theorem dX5_switchPrivate_47 : decode cX5_switchPrivate 47 = .ok (.invokevirtual 146, 3) := by decide +kernel
theorem dX5_switchPrivate_50 : decode cX5_switchPrivate 50 = .ok (.goto 19, 3) := by decide +kernel
theorem dX5_switchPrivate_53 : decode cX5_switchPrivate 53 = .ok (.aload_n 0, 1) := by decide +kernel
theorem dX5_switchPrivate_54 : decode cX5_switchPrivate 54 = .ok (.iload_n 2, 1) := by decide +kernel
theorem dX5_switchPrivate_55 : decode cX5_switchPrivate 55 = .ok (.putfield 52, 3) := by decide +kernel
theorem dX5_switchPrivate_58 : decode cX5_switchPrivate 58 = .ok (.goto 11, 3) := by decide +kernel
theorem dX5_switchPrivate_61 : decode cX5_switchPrivate 61 = .ok (.aload_n 0, 1) := by decide +kernel
theorem dX5_switchPrivate_62 : decode cX5_switchPrivate 62 = .ok (.iload_n 2, 1) := by decide +kernel
theorem dX5_switchPrivate_63 : decode cX5_switchPrivate 63 = .ok (.invokevirtual 149, 3) := by decide +kernel
theorem dX5_switchPrivate_66 : decode cX5_switchPrivate 66 = .ok (.goto 3, 3) := by decide +kernel
theorem dX5_switchPrivate_69 : decode cX5_switchPrivate 69 = .ok (.return_, 1) := by decide +kernel
theorem dX5_showPage_0 : decode cX5_showPage 0 = .ok (.iload_n 1, 1) := by decide +kernel
theorem dX5_showPage_1 : decode cX5_showPage 1 = .ok (.ifCond .eq 20, 3) := by decide +kernel
theorem dX5_showPage_4 : decode cX5_showPage 4 = .ok (.aload_n 0, 1) := by decide +kernel
theorem dX5_showPage_5 : decode cX5_showPage 5 = .ok (.getfield 55, 3) := by decide +kernel
theorem dX5_showPage_8 : decode cX5_showPage 8 = .ok (.ifCond .ne 13, 3) := by decide +kernel
theorem dX5_showPage_11 : decode cX5_showPage 11 = .ok (.aload_n 0, 1) := by decide +kernel
theorem dX5_showPage_12 : decode cX5_showPage 12 = .ok (.getfield 18, 3) := by decide +kernel
theorem dX5_showPage_15 : decode cX5_showPage 15 = .ok (.iconst 0, 1) := by decide +kernel
theorem dX5_showPage_16 : decode cX5_showPage 16 = .ok (.bipush 95, 2) := by decide +kernel
theorem dX5_showPage_18 : decode cX5_showPage 18 = .ok (.invokevirtual 31, 3) := by decide +kernel
theorem dX5_showPage_21 : decode cX5_showPage 21 = .ok (.aload_n 0, 1) := by decide +kernel
theorem dX5_showPage_22 : decode cX5_showPage 22 = .ok (.iload_n 1, 1) := by decide +kernel
theorem dX5_showPage_23 : decode cX5_showPage 23 = .ok (.putfield 55, 3) := by decide +kernel
theorem dX5_showPage_26 : decode cX5_showPage 26 = .ok (.return_, 1) := by decide +kernel
theorem dX5_rowToTell_0 : decode cX5_rowToTell 0 = .ok (.aload_n 0, 1) := by decide +kernel
theorem dX5_rowToTell_1 : decode cX5_rowToTell 1 = .ok (.getfield 24, 3) := by decide +kernel
theorem dX5_rowToTell_4 : decode cX5_rowToTell 4 = .ok (.getfield 139, 3) := by decide +kernel
theorem dX5_rowToTell_7 : decode cX5_rowToTell 7 = .ok (.ifCond .ne 13, 3) := by decide +kernel
theorem dX5_rowToTell_10 : decode cX5_rowToTell 10 = .ok (.aload_n 0, 1) := by decide +kernel
theorem dX5_rowToTell_11 : decode cX5_rowToTell 11 = .ok (.getfield 24, 3) := by decide +kernel
theorem dX5_rowToTell_14 : decode cX5_rowToTell 14 = .ok (.getfield 108, 3) := by decide +kernel
theorem dX5_rowToTell_17 : decode cX5_rowToTell 17 = .ok (.iconst 1, 1) := by decide +kernel
theorem dX5_rowToTell_18 : decode cX5_rowToTell 18 = .ok (.iadd, 1) := by decide +kernel
theorem dX5_rowToTell_19 : decode cX5_rowToTell 19 = .ok (.ireturn, 1) := by decide +kernel
theorem dX5_rowToTell_20 : decode cX5_rowToTell 20 = .ok (.aload_n 0, 1) := by decide +kernel
theorem dX5_rowToTell_21 : decode cX5_rowToTell 21 = .ok (.getfield 24, 3) := by decide +kernel
theorem dX5_rowToTell_24 : decode cX5_rowToTell 24 = .ok (.getfield 108, 3) := by decide +kernel
theorem dX5_rowToTell_27 : decode cX5_rowToTell 27 = .ok (.aload_n 0, 1) := by decide +kernel
theorem dX5_rowToTell_28 : decode cX5_rowToTell 28 = .ok (.getfield 38, 3) := by decide +kernel
theorem dX5_rowToTell_31 : decode cX5_rowToTell 31 = .ok (.if_icmp .ge 7, 3) := by decide +kernel
theorem dX5_rowToTell_34 : decode cX5_rowToTell 34 = .ok (.iconst 0, 1) := by decide +kernel
theorem dX5_rowToTell_35 : decode cX5_rowToTell 35 = .ok (.goto 17, 3) := by decide +kernel
theorem dX5_rowToTell_38 : decode cX5_rowToTell 38 = .ok (.aload_n 0, 1) := by decide +kernel
theorem dX5_rowToTell_39 : decode cX5_rowToTell 39 = .ok (.getfield 24, 3) := by decide +kernel
theorem dX5_rowToTell_42 : decode cX5_rowToTell 42 = .ok (.getfield 108, 3) := by decide +kernel
theorem dX5_rowToTell_45 : decode cX5_rowToTell 45 = .ok (.aload_n 0, 1) := by decide +kernel
theorem dX5_rowToTell_46 : decode cX5_rowToTell 46 = .ok (.getfield 38, 3) := by decide +kernel
theorem dX5_rowToTell_49 : decode cX5_rowToTell 49 = .ok (.isub, 1) := by decide +kernel
theorem dX5_rowToTell_50 : decode cX5_rowToTell 50 = .ok (.iconst 1, 1) := by decide +kernel
theorem dX5_rowToTell_51 : decode cX5_rowToTell 51 = .ok (.iadd, 1) := by decide +kernel
theorem dX5_rowToTell_52 : decode cX5_rowToTell 52 = .ok (.ireturn, 1) := by decide +kernel
theorem dX5_isInRegion_0 : decode cX5_isInRegion 0 = .ok (.aload_n 0, 1) := by decide +kernel
theorem dX5_isInRegion_1 : decode cX5_isInRegion 1 = .ok (.getfield 24, 3) := by decide +kernel
theorem dX5_isInRegion_4 : decode cX5_isInRegion 4 = .ok (.getfield 108, 3) := by decide +kernel
theorem dX5_isInRegion_7 : decode cX5_isInRegion 7 = .ok (.aload_n 0, 1) := by decide +kernel
theorem dX5_isInRegion_8 : decode cX5_isInRegion 8 = .ok (.getfield 38, 3) := by decide +kernel
theorem dX5_isInRegion_11 : decode cX5_isInRegion 11 = .ok (.if_icmp .lt 21, 3) := by decide +kernel
theorem dX5_isInRegion_14 : decode cX5_isInRegion 14 = .ok (.aload_n 0, 1) := by decide +kernel
theorem dX5_isInRegion_15 : decode cX5_isInRegion 15 = .ok (.getfield 24, 3) := by decide +kernel
theorem dX5_isInRegion_18 : decode cX5_isInRegion 18 = .ok (.getfield 108, 3) := by decide +kernel
theorem dX5_isInRegion_21 : decode cX5_isInRegion 21 = .ok (.aload_n 0, 1) := by decide +kernel
theorem dX5_isInRegion_22 : decode cX5_isInRegion 22 = .ok (.getfield 42, 3) := by decide +kernel
theorem dX5_isInRegion_25 : decode cX5_isInRegion 25 = .ok (.if_icmp .gt 7, 3) := by decide +kernel
theorem dX5_isInRegion_28 : decode cX5_isInRegion 28 = .ok (.iconst 1, 1) := by decide +kernel
theorem dX5_isInRegion_29 : decode cX5_isInRegion 29 = .ok (.goto 4, 3) := by decide +kernel
theorem dX5_isInRegion_32 : decode cX5_isInRegion 32 = .ok (.iconst 0, 1) := by decide +kernel
theorem dX5_isInRegion_33 : decode cX5_isInRegion 33 = .ok (.ireturn, 1) := by decide +kernel
theorem dX5_cell_0 : decode cX5_cell 0 = .ok (.aload_n 0, 1) := by decide +kernel
theorem dX5_cell_1 : decode cX5_cell 1 = .ok (.invokevirtual 124, 3) := by decide +kernel
theorem dX5_cell_4 : decode cX5_cell 4 = .ok (.aload_n 0, 1) := by decide +kernel
theorem dX5_cell_5 : decode cX5_cell 5 = .ok (.getfield 24, 3) := by decide +kernel
theorem dX5_cell_8 : decode cX5_cell 8 = .ok (.getfield 71, 3) := by decide +kernel
theorem dX5_cell_11 : decode cX5_cell 11 = .ok (.iadd, 1) := by decide +kernel
theorem dX5_cell_12 : decode cX5_cell 12 = .ok (.ireturn, 1) := by decide +kernel
theorem dX5_rowStart_0 : decode cX5_rowStart 0 = .ok (.aload_n 0, 1) := by decide +kernel
theorem dX5_rowStart_1 : decode cX5_rowStart 1 = .ok (.getfield 24, 3) := by decide +kernel
theorem dX5_rowStart_4 : decode cX5_rowStart 4 = .ok (.getfield 108, 3) := by decide +kernel
theorem dX5_rowStart_7 : decode cX5_rowStart 7 = .ok (.bipush 12, 2) := by decide +kernel
theorem dX5_rowStart_9 : decode cX5_rowStart 9 = .ok (.imul, 1) := by decide +kernel
theorem dX5_rowStart_10 : decode cX5_rowStart 10 = .ok (.ireturn, 1) := by decide +kernel
theorem dX5_rowEnd_0 : decode cX5_rowEnd 0 = .ok (.aload_n 0, 1) := by decide +kernel
theorem dX5_rowEnd_1 : decode cX5_rowEnd 1 = .ok (.invokevirtual 124, 3) := by decide +kernel
theorem dX5_rowEnd_4 : decode cX5_rowEnd 4 = .ok (.bipush 11, 2) := by decide +kernel
theorem dX5_rowEnd_6 : decode cX5_rowEnd 6 = .ok (.iadd, 1) := by decide +kernel
theorem dX5_rowEnd_7 : decode cX5_rowEnd 7 = .ok (.ireturn, 1) := by decide +kernel
theorem dX5_regionStart_0 : decode cX5_regionStart 0 = .ok (.aload_n 0, 1) := by decide +kernel
theorem dX5_regionStart_1 : decode cX5_regionStart 1 = .ok (.getfield 38, 3) := by decide +kernel
theorem dX5_regionStart_4 : decode cX5_regionStart 4 = .ok (.bipush 12, 2) := by decide +kernel
theorem dX5_regionStart_6 : decode cX5_regionStart 6 = .ok (.imul, 1) := by decide +kernel
theorem dX5_regionStart_7 : decode cX5_regionStart 7 = .ok (.ireturn, 1) := by decide +kernel
theorem dX5_regionEnd_0 : decode cX5_regionEnd 0 = .ok (.aload_n 0, 1) := by decide +kernel
theorem dX5_regionEnd_1 : decode cX5_regionEnd 1 = .ok (.getfield 42, 3) := by decide +kernel
theorem dX5_regionEnd_4 : decode cX5_regionEnd 4 = .ok (.bipush 12, 2) := by decide +kernel
theorem dX5_regionEnd_6 : decode cX5_regionEnd 6 = .ok (.imul, 1) := by decide +kernel
theorem dX5_regionEnd_7 : decode cX5_regionEnd 7 = .ok (.bipush 11, 2) := by decide +kernel
theorem dX5_regionEnd_9 : decode cX5_regionEnd 9 = .ok (.iadd, 1) := by decide +kernel
theorem dX5_regionEnd_10 : decode cX5_regionEnd 10 = .ok (.ireturn, 1) := by decide +kernel
end
section
theorem dX6_init_0 : decode cX6_init 0 = .ok (.aload_n 0, 1) := by decide +kernel
theorem dX6_init_1 : decode cX6_init 1 = .ok (.invokespecial 3, 3) := by decide +kernel
theorem dX6_init_4 : decode cX6_init 4 = .ok (.aload_n 0, 1) := by decide +kernel
theorem dX6_init_5 : decode cX6_init 5 = .ok (.bipush 16, 2) := by decide +kernel
theorem dX6_init_7 : decode cX6_init 7 = .ok (.newarray .int, 2) := by decide +kernel
theorem dX6_init_9 : decode cX6_init 9 = .ok (.putfield 9, 3) := by decide +kernel
theorem dX6_init_12 : decode cX6_init 12 = .ok (.return_, 1) := by decide +kernel
theorem dX6_clear_0 : decode cX6_clear 0 = .ok (.aload_n 0, 1) := by decide +kernel
theorem dX6_clear_1 : decode cX6_clear 1 = .ok (.iconst 0, 1) := by decide +kernel
theorem dX6_clear_2 : decode cX6_clear 2 = .ok (.putfield 15, 3) := by decide +kernel
theorem dX6_clear_5 : decode cX6_clear 5 = .ok (.return_, 1) := by decide +kernel
theorem dX6_add_0 : decode cX6_add 0 = .ok (.aload_n 0, 1) := by decide +kernel
theorem dX6_add_1 : decode cX6_add 1 = .ok (.getfield 15, 3) := by decide +kernel
theorem dX6_add_4 : decode cX6_add 4 = .ok (.ifCond .lt 32, 3) := by decide +kernel
theorem dX6_add_7 : decode cX6_add 7 = .ok (.aload_n 0, 1) := by decide +kernel
theorem dX6_add_8 : decode cX6_add 8 = .ok (.getfield 15, 3) := by decide +kernel
theorem dX6_add_11 : decode cX6_add 11 = .ok (.bipush 16, 2) := by decide +kernel
theorem dX6_add_13 : decode cX6_add 13 = .ok (.if_icmp .ge 23, 3) := by decide +kernel
theorem dX6_add_16 : decode cX6_add 16 = .ok (.aload_n 0, 1) := by decide +kernel
theorem dX6_add_17 : decode cX6_add 17 = .ok (.getfield 9, 3) := by decide +kernel
theorem dX6_add_20 : decode cX6_add 20 = .ok (.aload_n 0, 1) := by decide +kernel
theorem dX6_add_21 : decode cX6_add 21 = .ok (.getfield 15, 3) := by decide +kernel
theorem dX6_add_24 : decode cX6_add 24 = .ok (.iload_n 1, 1) := by decide +kernel
theorem dX6_add_25 : decode cX6_add 25 = .ok (.iastore, 1) := by decide +kernel
theorem dX6_add_26 : decode cX6_add 26 = .ok (.aload_n 0, 1) := by decide +kernel
theorem dX6_add_27 : decode cX6_add 27 = .ok (.dup, 1) := by decide +kernel
theorem dX6_add_28 : decode cX6_add 28 = .ok (.getfield 15, 3) := by decide +kernel
theorem dX6_add_31 : decode cX6_add 31 = .ok (.iconst 1, 1) := by decide +kernel
theorem dX6_add_32 : decode cX6_add 32 = .ok (.iadd, 1) := by decide +kernel
theorem dX6_add_33 : decode cX6_add 33 = .ok (.putfield 15, 3) := by decide +kernel
theorem dX6_add_36 : decode cX6_add 36 = .ok (.return_, 1) := by decide +kernel
theorem dX6_copyFrom_0 : decode cX6_copyFrom 0 = .ok (.aload_n 1, 1) := by decide +kernel
theorem dX6_copyFrom_1 : decode cX6_copyFrom 1 = .ok (.ifnonnull 4, 3) := by decide +kernel
theorem dX6_copyFrom_4 : decode cX6_copyFrom 4 = .ok (.return_, 1) := by decide +kernel
theorem dX6_copyFrom_5 : decode cX6_copyFrom 5 = .ok (.iconst 0, 1) := by decide +kernel
theorem dX6_copyFrom_6 : decode cX6_copyFrom 6 = .ok (.istore_n 2, 1) := by decide +kernel
theorem dX6_copyFrom_7 : decode cX6_copyFrom 7 = .ok (.iload_n 2, 1) := by decide +kernel
theorem dX6_copyFrom_8 : decode cX6_copyFrom 8 = .ok (.bipush 16, 2) := by decide +kernel
theorem dX6_copyFrom_10 : decode cX6_copyFrom 10 = .ok (.if_icmp .ge 21, 3) := by decide +kernel
theorem dX6_copyFrom_13 : decode cX6_copyFrom 13 = .ok (.aload_n 0, 1) := by decide +kernel
theorem dX6_copyFrom_14 : decode cX6_copyFrom 14 = .ok (.getfield 9, 3) := by decide +kernel
theorem dX6_copyFrom_17 : decode cX6_copyFrom 17 = .ok (.iload_n 2, 1) := by decide +kernel
theorem dX6_copyFrom_18 : decode cX6_copyFrom 18 = .ok (.aload_n 1, 1) := by decide +kernel
theorem dX6_copyFrom_19 : decode cX6_copyFrom 19 = .ok (.getfield 9, 3) := by decide +kernel
theorem dX6_copyFrom_22 : decode cX6_copyFrom 22 = .ok (.iload_n 2, 1) := by decide +kernel
theorem dX6_copyFrom_23 : decode cX6_copyFrom 23 = .ok (.iaload, 1) := by decide +kernel
theorem dX6_copyFrom_24 : decode cX6_copyFrom 24 = .ok (.iastore, 1) := by decide +kernel
theorem dX6_copyFrom_25 : decode cX6_copyFrom 25 = .ok (.iinc 2 1, 3) := by decide +kernel
theorem dX6_copyFrom_28 : decode cX6_copyFrom 28 = .ok (.goto (-21), 3) := by decide +kernel
theorem dX6_copyFrom_31 : decode cX6_copyFrom 31 = .ok (.aload_n 0, 1) := by decide +kernel
theorem dX6_copyFrom_32 : decode cX6_copyFrom 32 = .ok (.aload_n 1, 1) := by decide +kernel
theorem dX6_copyFrom_33 : decode cX6_copyFrom 33 = .ok (.getfield 15, 3) := by decide +kernel
theorem dX6_copyFrom_36 : decode cX6_copyFrom 36 = .ok (.putfield 15, 3) := by decide +kernel
theorem dX6_copyFrom_39 : decode cX6_copyFrom 39 = .ok (.return_, 1) := by decide +kernel
theorem dX6_characterAt_0 : decode cX6_characterAt 0 = .ok (.iload_n 1, 1) := by decide +kernel
theorem dX6_characterAt_1 : decode cX6_characterAt 1 = .ok (.ifCond .lt 26, 3) := by decide +kernel
theorem dX6_characterAt_4 : decode cX6_characterAt 4 = .ok (.iload_n 1, 1) := by decide +kernel
theorem dX6_characterAt_5 : decode cX6_characterAt 5 = .ok (.aload_n 0, 1) := by decide +kernel
theorem dX6_characterAt_6 : decode cX6_characterAt 6 = .ok (.getfield 15, 3) := by decide +kernel
theorem dX6_characterAt_9 : decode cX6_characterAt 9 = .ok (.if_icmp .ge 18, 3) := by decide +kernel
theorem dX6_characterAt_12 : decode cX6_characterAt 12 = .ok (.iload_n 1, 1) := by decide +kernel
theorem dX6_characterAt_13 : decode cX6_characterAt 13 = .ok (.bipush 16, 2) := by decide +kernel
theorem dX6_characterAt_15 : decode cX6_characterAt 15 = .ok (.if_icmp .ge 12, 3) := by decide +kernel
theorem dX6_characterAt_18 : decode cX6_characterAt 18 = .ok (.aload_n 0, 1) := by decide +kernel
theorem dX6_characterAt_19 : decode cX6_characterAt 19 = .ok (.getfield 9, 3) := by decide +kernel
theorem dX6_characterAt_22 : decode cX6_characterAt 22 = .ok (.iload_n 1, 1) := by decide +kernel
theorem dX6_characterAt_23 : decode cX6_characterAt 23 = .ok (.iaload, 1) := by decide +kernel
theorem dX6_characterAt_24 : decode cX6_characterAt 24 = .ok (.goto 4, 3) := by decide +kernel
theorem dX6_characterAt_27 : decode cX6_characterAt 27 = .ok (.iconst (-1), 1) := by decide +kernel
theorem dX6_characterAt_28 : decode cX6_characterAt 28 = .ok (.ireturn, 1) := by decide +kernel
end
section
theorem dX7_init_0 : decode cX7_init 0 = .ok (.aload_n 0, 1) := by decide +kernel
theorem dX7_init_1 : decode cX7_init 1 = .ok (.invokespecial 3, 3) := by decide +kernel
theorem dX7_init_4 : decode cX7_init 4 = .ok (.aload_n 0, 1) := by decide +kernel
theorem dX7_init_5 : decode cX7_init 5 = .ok (.new 9, 3) := by decide +kernel
theorem dX7_init_8 : decode cX7_init 8 = .ok (.dup, 1) := by decide +kernel
theorem dX7_init_9 : decode cX7_init 9 = .ok (.invokespecial 11, 3) := by decide +kernel
theorem dX7_init_12 : decode cX7_init 12 = .ok (.putfield 12, 3) := by decide +kernel
theorem dX7_init_15 : decode cX7_init 15 = .ok (.aload_n 0, 1) := by decide +kernel
theorem dX7_init_16 : decode cX7_init 16 = .ok (.new 16, 3) := by decide +kernel
theorem dX7_init_19 : decode cX7_init 19 = .ok (.dup, 1) := by decide +kernel
theorem dX7_init_20 : decode cX7_init 20 = .ok (.invokespecial 18, 3) := by decide +kernel
theorem dX7_init_23 : decode cX7_init 23 = .ok (.putfield 19, 3) := by decide +kernel
theorem dX7_init_26 : decode cX7_init 26 = .ok (.aload_n 0, 1) := by decide +kernel
theorem dX7_init_27 : decode cX7_init 27 = .ok (.new 23, 3) := by decide +kernel
theorem dX7_init_30 : decode cX7_init 30 = .ok (.dup, 1) := by decide +kernel
theorem dX7_init_31 : decode cX7_init 31 = .ok (.invokespecial 25, 3) := by decide +kernel
theorem dX7_init_34 : decode cX7_init 34 = .ok (.putfield 26, 3) := by decide +kernel
theorem dX7_init_37 : decode cX7_init 37 = .ok (.aload_n 0, 1) := by decide +kernel
theorem dX7_init_38 : decode cX7_init 38 = .ok (.new 30, 3) := by decide +kernel
theorem dX7_init_41 : decode cX7_init 41 = .ok (.dup, 1) := by decide +kernel
theorem dX7_init_42 : decode cX7_init 42 = .ok (.invokespecial 32, 3) := by decide +kernel
theorem dX7_init_45 : decode cX7_init 45 = .ok (.putfield 33, 3) := by decide +kernel
theorem dX7_init_48 : decode cX7_init 48 = .ok (.aload_n 0, 1) := by decide +kernel
theorem dX7_init_49 : decode cX7_init 49 = .ok (.new 30, 3) := by decide +kernel
theorem dX7_init_52 : decode cX7_init 52 = .ok (.dup, 1) := by decide +kernel
theorem dX7_init_53 : decode cX7_init 53 = .ok (.invokespecial 32, 3) := by decide +kernel
theorem dX7_init_56 : decode cX7_init 56 = .ok (.putfield 37, 3) := by decide +kernel
theorem dX7_init_59 : decode cX7_init 59 = .ok (.aload_n 0, 1) := by decide +kernel
theorem dX7_init_60 : decode cX7_init 60 = .ok (.new 40, 3) := by decide +kernel
theorem dX7_init_63 : decode cX7_init 63 = .ok (.dup, 1) := by decide +kernel
theorem dX7_init_64 : decode cX7_init 64 = .ok (.invokespecial 42, 3) := by decide +kernel
theorem dX7_init_67 : decode cX7_init 67 = .ok (.putfield 43, 3) := by decide +kernel
theorem dX7_init_70 : decode cX7_init 70 = .ok (.aload_n 0, 1) := by decide +kernel
theorem dX7_init_71 : decode cX7_init 71 = .ok (.iconst 0, 1) := by decide +kernel
theorem dX7_init_72 : decode cX7_init 72 = .ok (.putfield 47, 3) := by decide +kernel
theorem dX7_init_75 : decode cX7_init 75 = .ok (.aload_n 0, 1) := by decide +kernel
theorem dX7_init_76 : decode cX7_init 76 = .ok (.invokevirtual 51, 3) := by decide +kernel
theorem dX7_init_79 : decode cX7_init 79 = .ok (.return_, 1) := by decide +kernel
theorem dX7_feed_0 : decode cX7_feed 0 = .ok (.iload_n 1, 1) := by decide +kernel
theorem dX7_feed_1 : decode cX7_feed 1 = .ok (.ifCond .lt 10, 3) := by decide +kernel
theorem dX7_feed_4 : decode cX7_feed 4 = .ok (.iload_n 1, 1) := by decide +kernel
theorem dX7_feed_5 : decode cX7_feed 5 = .ok (.sipush 255, 3) := by decide +kernel
theorem dX7_feed_8 : decode cX7_feed 8 = .ok (.if_icmp .le 5, 3) := by decide +kernel
theorem dX7_feed_11 : decode cX7_feed 11 = .ok (.iconst 0, 1) := by decide +kernel
theorem dX7_feed_12 : decode cX7_feed 12 = .ok (.ireturn, 1) := by decide +kernel
theorem dX7_feed_13 : decode cX7_feed 13 = .ok (.aload_n 0, 1) := by decide +kernel
theorem dX7_feed_14 : decode cX7_feed 14 = .ok (.iload_n 1, 1) := by decide +kernel
theorem dX7_feed_15 : decode cX7_feed 15 = .ok (.invokevirtual 54, 3) := by decide +kernel
theorem dX7_feed_18 : decode cX7_feed 18 = .ok (.iconst 1, 1) := by decide +kernel
theorem dX7_feed_19 : decode cX7_feed 19 = .ok (.ireturn, 1) := by decide +kernel
theorem dX7_feedAll_0 : decode cX7_feedAll 0 = .ok (.iconst 0, 1) := by decide +kernel
theorem dX7_feedAll_1 : decode cX7_feedAll 1 = .ok (.istore_n 3, 1) := by decide +kernel
theorem dX7_feedAll_2 : decode cX7_feedAll 2 = .ok (.iconst 0, 1) := by decide +kernel
theorem dX7_feedAll_3 : decode cX7_feedAll 3 = .ok (.istore 4, 2) := by decide +kernel
theorem dX7_feedAll_5 : decode cX7_feedAll 5 = .ok (.iload 4, 2) := by decide +kernel
theorem dX7_feedAll_7 : decode cX7_feedAll 7 = .ok (.bipush 8, 2) := by decide +kernel
theorem dX7_feedAll_9 : decode cX7_feedAll 9 = .ok (.if_icmp .ge 39, 3) := by decide +kernel
theorem dX7_feedAll_12 : decode cX7_feedAll 12 = .ok (.lload_n 1, 1) := by decide +kernel
theorem dX7_feedAll_13 : decode cX7_feedAll 13 = .ok (.bipush 8, 2) := by decide +kernel
theorem dX7_feedAll_15 : decode cX7_feedAll 15 = .ok (.iload 4, 2) := by decide +kernel
theorem dX7_feedAll_17 : decode cX7_feedAll 17 = .ok (.imul, 1) := by decide +kernel
theorem dX7_feedAll_18 : decode cX7_feedAll 18 = .ok (.lushr, 1) := by decide +kernel
theorem dX7_feedAll_19 : decode cX7_feedAll 19 = .ok (.l2i, 1) := by decide +kernel
theorem dX7_feedAll_20 : decode cX7_feedAll 20 = .ok (.sipush 255, 3) := by decide +kernel
theorem dX7_feedAll_23 : decode cX7_feedAll 23 = .ok (.iand, 1) := by decide +kernel
theorem dX7_feedAll_24 : decode cX7_feedAll 24 = .ok (.istore 5, 2) := by decide +kernel
theorem dX7_feedAll_26 : decode cX7_feedAll 26 = .ok (.iload 5, 2) := by decide +kernel
theorem dX7_feedAll_28 : decode cX7_feedAll 28 = .ok (.ifCond .ne 5, 3) := by decide +kernel
theorem dX7_feedAll_31 : decode cX7_feedAll 31 = .ok (.iload_n 3, 1) := by decide +kernel
theorem dX7_feedAll_32 : decode cX7_feedAll 32 = .ok (.ireturn, 1) := by decide +kernel
theorem dX7_feedAll_33 : decode cX7_feedAll 33 = .ok (.aload_n 0, 1) := by decide +kernel
theorem dX7_feedAll_34 : decode cX7_feedAll 34 = .ok (.iload 5, 2) := by decide +kernel
theorem dX7_feedAll_36 : decode cX7_feedAll 36 = .ok (.invokevirtual 54, 3) := by decide +kernel
theorem dX7_feedAll_39 : decode cX7_feedAll 39 = .ok (.iinc 3 1, 3) := by decide +kernel
theorem dX7_feedAll_42 : decode cX7_feedAll 42 = .ok (.iinc 4 1, 3) := by decide +kernel
theorem dX7_feedAll_45 : decode cX7_feedAll 45 = .ok (.goto (-40), 3) := by decide +kernel
theorem dX7_feedAll_48 : decode cX7_feedAll 48 = .ok (.iload_n 3, 1) := by decide +kernel
theorem dX7_feedAll_49 : decode cX7_feedAll 49 = .ok (.ireturn, 1) := by decide +kernel
theorem dX7_row_0 : decode cX7_row 0 = .ok (.aload_n 0, 1) := by decide +kernel
theorem dX7_row_1 : decode cX7_row 1 = .ok (.getfield 12, 3) := by decide +kernel
theorem dX7_row_4 : decode cX7_row 4 = .ok (.getfield 58, 3) := by decide +kernel
theorem dX7_row_7 : decode cX7_row 7 = .ok (.getfield 62, 3) := by decide +kernel
theorem dX7_row_10 : decode cX7_row 10 = .ok (.ireturn, 1) := by decide +kernel
theorem dX7_column_0 : decode cX7_column 0 = .ok (.aload_n 0, 1) := by decide +kernel
theorem dX7_column_1 : decode cX7_column 1 = .ok (.getfield 12, 3) := by decide +kernel
theorem dX7_column_4 : decode cX7_column 4 = .ok (.getfield 58, 3) := by decide +kernel
theorem dX7_column_7 : decode cX7_column 7 = .ok (.getfield 67, 3) := by decide +kernel
theorem dX7_column_10 : decode cX7_column 10 = .ok (.ireturn, 1) := by decide +kernel
theorem dX7_full_0 : decode cX7_full 0 = .ok (.aload_n 0, 1) := by decide +kernel
theorem dX7_full_1 : decode cX7_full 1 = .ok (.getfield 12, 3) := by decide +kernel
theorem dX7_full_4 : decode cX7_full 4 = .ok (.getfield 58, 3) := by decide +kernel
theorem dX7_full_7 : decode cX7_full 7 = .ok (.getfield 70, 3) := by decide +kernel
theorem dX7_full_10 : decode cX7_full 10 = .ok (.ireturn, 1) := by decide +kernel
theorem dX7_pen_0 : decode cX7_pen 0 = .ok (.aload_n 0, 1) := by decide +kernel
theorem dX7_pen_1 : decode cX7_pen 1 = .ok (.getfield 12, 3) := by decide +kernel
theorem dX7_pen_4 : decode cX7_pen 4 = .ok (.getfield 58, 3) := by decide +kernel
theorem dX7_pen_7 : decode cX7_pen 7 = .ok (.getfield 74, 3) := by decide +kernel
theorem dX7_pen_10 : decode cX7_pen 10 = .ok (.ireturn, 1) := by decide +kernel
theorem dX7_mode_0 : decode cX7_mode 0 = .ok (.iload_n 1, 1) := by decide +kernel
theorem dX7_mode_1 : decode cX7_mode 1 = .ok (.tableswitch 98 0 3 #[31, 47, 66, 82], 31) := by decide +kernel
theorem dX7_mode_32 : decode cX7_mode 32 = .ok (.aload_n 0, 1) := by decide +kernel
theorem dX7_mode_33 : decode cX7_mode 33 = .ok (.getfield 12, 3) := by decide +kernel
theorem dX7_mode_36 : decode cX7_mode 36 = .ok (.getfield 77, 3) := by decide +kernel
theorem dX7_mode_39 : decode cX7_mode 39 = .ok (.ifCond .eq 7, 3) := by decide +kernel
theorem dX7_mode_42 : decode cX7_mode 42 = .ok (.iconst 1, 1) := by decide +kernel
theorem dX7_mode_43 : decode cX7_mode 43 = .ok (.goto 4, 3) := by decide +kernel
theorem dX7_mode_46 : decode cX7_mode 46 = .ok (.iconst 0, 1) := by decide +kernel
theorem dX7_mode_47 : decode cX7_mode 47 = .ok (.ireturn, 1) := by decide +kernel
theorem dX7_mode_48 : decode cX7_mode 48 = .ok (.aload_n 0, 1) := by decide +kernel
theorem dX7_mode_49 : decode cX7_mode 49 = .ok (.getfield 12, 3) := by decide +kernel
theorem dX7_mode_52 : decode cX7_mode 52 = .ok (.getfield 58, 3) := by decide +kernel
theorem dX7_mode_55 : decode cX7_mode 55 = .ok (.getfield 80, 3) := by decide +kernel
theorem dX7_mode_58 : decode cX7_mode 58 = .ok (.ifCond .eq 7, 3) := by decide +kernel
theorem dX7_mode_61 : decode cX7_mode 61 = .ok (.iconst 1, 1) := by decide +kernel
theorem dX7_mode_62 : decode cX7_mode 62 = .ok (.goto 4, 3) := by decide +kernel
theorem dX7_mode_65 : decode cX7_mode 65 = .ok (.iconst 0, 1) := by decide +kernel
theorem dX7_mode_66 : decode cX7_mode 66 = .ok (.ireturn, 1) := by decide +kernel
theorem dX7_mode_67 : decode cX7_mode 67 = .ok (.aload_n 0, 1) := by decide +kernel
theorem dX7_mode_68 : decode cX7_mode 68 = .ok (.getfield 12, 3) := by decide +kernel
theorem dX7_mode_71 : decode cX7_mode 71 = .ok (.getfield 83, 3) := by decide +kernel
theorem dX7_mode_74 : decode cX7_mode 74 = .ok (.ifCond .eq 7, 3) := by decide +kernel
theorem dX7_mode_77 : decode cX7_mode 77 = .ok (.iconst 1, 1) := by decide +kernel
theorem dX7_mode_78 : decode cX7_mode 78 = .ok (.goto 4, 3) := by decide +kernel
theorem dX7_mode_81 : decode cX7_mode 81 = .ok (.iconst 0, 1) := by decide +kernel
theorem dX7_mode_82 : decode cX7_mode 82 = .ok (.ireturn, 1) := by decide +kernel
theorem dX7_mode_83 : decode cX7_mode 83 = .ok (.aload_n 0, 1) := by decide +kernel
theorem dX7_mode_84 : decode cX7_mode 84 = .ok (.getfield 12, 3) := by decide +kernel
theorem dX7_mode_87 : decode cX7_mode 87 = .ok (.getfield 86, 3) := by decide +kernel
theorem dX7_mode_90 : decode cX7_mode 90 = .ok (.ifCond .eq 7, 3) := by decide +kernel
theorem dX7_mode_93 : decode cX7_mode 93 = .ok (.iconst 1, 1) := by decide +kernel
theorem dX7_mode_94 : decode cX7_mode 94 = .ok (.goto 4, 3) := by decide +kernel
theorem dX7_mode_97 : decode cX7_mode 97 = .ok (.iconst 0, 1) := by decide +kernel
theorem dX7_mode_98 : decode cX7_mode 98 = .ok (.ireturn, 1) := by decide +kernel
theorem dX7_mode_99 : decode cX7_mode 99 = .ok (.iconst (-1), 1) := by decide +kernel
theorem dX7_mode_100 : decode cX7_mode 100 = .ok (.ireturn, 1) := by decide +kernel
theorem dX7_region_0 : decode cX7_region 0 = .ok (.bipush 8, 2) := by decide +kernel
theorem dX7_region_2 : decode cX7_region 2 = .ok (.aload_n 0, 1) := by decide +kernel
theorem dX7_region_3 : decode cX7_region 3 = .ok (.getfield 12, 3) := by decide +kernel
theorem dX7_region_6 : decode cX7_region 6 = .ok (.getfield 89, 3) := by decide +kernel
theorem dX7_region_9 : decode cX7_region 9 = .ok (.imul, 1) := by decide +kernel
theorem dX7_region_10 : decode cX7_region 10 = .ok (.aload_n 0, 1) := by decide +kernel
theorem dX7_region_11 : decode cX7_region 11 = .ok (.getfield 12, 3) := by decide +kernel
theorem dX7_region_14 : decode cX7_region 14 = .ok (.getfield 92, 3) := by decide +kernel
theorem dX7_region_17 : decode cX7_region 17 = .ok (.iadd, 1) := by decide +kernel
theorem dX7_region_18 : decode cX7_region 18 = .ok (.ireturn, 1) := by decide +kernel
theorem dX7_tab_0 : decode cX7_tab 0 = .ok (.aload_n 0, 1) := by decide +kernel
theorem dX7_tab_1 : decode cX7_tab 1 = .ok (.getfield 12, 3) := by decide +kernel
theorem dX7_tab_4 : decode cX7_tab 4 = .ok (.iload_n 1, 1) := by decide +kernel
theorem dX7_tab_5 : decode cX7_tab 5 = .ok (.invokevirtual 95, 3) := by decide +kernel
theorem dX7_tab_8 : decode cX7_tab 8 = .ok (.ireturn, 1) := by decide +kernel
theorem dX7_bells_0 : decode cX7_bells 0 = .ok (.aload_n 0, 1) := by decide +kernel
theorem dX7_bells_1 : decode cX7_bells 1 = .ok (.getfield 12, 3) := by decide +kernel
theorem dX7_bells_4 : decode cX7_bells 4 = .ok (.getfield 99, 3) := by decide +kernel
theorem dX7_bells_7 : decode cX7_bells 7 = .ok (.ireturn, 1) := by decide +kernel
theorem dX7_state_0 : decode cX7_state 0 = .ok (.aload_n 0, 1) := by decide +kernel
theorem dX7_state_1 : decode cX7_state 1 = .ok (.getfield 47, 3) := by decide +kernel
theorem dX7_state_4 : decode cX7_state 4 = .ok (.ireturn, 1) := by decide +kernel
theorem dX7_code_0 : decode cX7_code 0 = .ok (.iload_n 1, 1) := by decide +kernel
theorem dX7_code_1 : decode cX7_code 1 = .ok (.iload_n 2, 1) := by decide +kernel
theorem dX7_code_2 : decode cX7_code 2 = .ok (.invokestatic 102, 3) := by decide +kernel
theorem dX7_code_5 : decode cX7_code 5 = .ok (.ifCond .ne 11, 3) := by decide +kernel
theorem dX7_code_8 : decode cX7_code 8 = .ok (.new 106, 3) := by decide +kernel
theorem dX7_code_11 : decode cX7_code 11 = .ok (.dup, 1) := by decide +kernel
theorem dX7_code_12 : decode cX7_code 12 = .ok (.invokespecial 108, 3) := by decide +kernel
theorem dX7_code_15 : decode cX7_code 15 = .ok (.athrow, 1) := by decide +kernel
theorem dX7_code_16 : decode cX7_code 16 = .ok (.aload_n 0, 1) := by decide +kernel
theorem dX7_code_17 : decode cX7_code 17 = .ok (.getfield 12, 3) := by decide +kernel
theorem dX7_code_20 : decode cX7_code 20 = .ok (.invokevirtual 109, 3) := by decide +kernel
theorem dX7_code_23 : decode cX7_code 23 = .ok (.getfield 113, 3) := by decide +kernel
theorem dX7_code_26 : decode cX7_code 26 = .ok (.iload_n 1, 1) := by decide +kernel
theorem dX7_code_27 : decode cX7_code 27 = .ok (.bipush 12, 2) := by decide +kernel
theorem dX7_code_29 : decode cX7_code 29 = .ok (.imul, 1) := by decide +kernel
theorem dX7_code_30 : decode cX7_code 30 = .ok (.iload_n 2, 1) := by decide +kernel
theorem dX7_code_31 : decode cX7_code 31 = .ok (.iadd, 1) := by decide +kernel
theorem dX7_code_32 : decode cX7_code 32 = .ok (.iaload, 1) := by decide +kernel
theorem dX7_code_33 : decode cX7_code 33 = .ok (.ireturn, 1) := by decide +kernel
theorem dX7_look_0 : decode cX7_look 0 = .ok (.iload_n 1, 1) := by decide +kernel
theorem dX7_look_1 : decode cX7_look 1 = .ok (.iload_n 2, 1) := by decide +kernel
theorem dX7_look_2 : decode cX7_look 2 = .ok (.invokestatic 102, 3) := by decide +kernel
theorem dX7_look_5 : decode cX7_look 5 = .ok (.ifCond .ne 11, 3) := by decide +kernel
theorem dX7_look_8 : decode cX7_look 8 = .ok (.new 106, 3) := by decide +kernel
theorem dX7_look_11 : decode cX7_look 11 = .ok (.dup, 1) := by decide +kernel
theorem dX7_look_12 : decode cX7_look 12 = .ok (.invokespecial 108, 3) := by decide +kernel
theorem dX7_look_15 : decode cX7_look 15 = .ok (.athrow, 1) := by decide +kernel
theorem dX7_look_16 : decode cX7_look 16 = .ok (.aload_n 0, 1) := by decide +kernel
theorem dX7_look_17 : decode cX7_look 17 = .ok (.getfield 12, 3) := by decide +kernel
theorem dX7_look_20 : decode cX7_look 20 = .ok (.invokevirtual 109, 3) := by decide +kernel
theorem dX7_look_23 : decode cX7_look 23 = .ok (.getfield 119, 3) := by decide +kernel
theorem dX7_look_26 : decode cX7_look 26 = .ok (.iload_n 1, 1) := by decide +kernel
theorem dX7_look_27 : decode cX7_look 27 = .ok (.bipush 12, 2) := by decide +kernel
theorem dX7_look_29 : decode cX7_look 29 = .ok (.imul, 1) := by decide +kernel
theorem dX7_look_30 : decode cX7_look 30 = .ok (.iload_n 2, 1) := by decide +kernel
theorem dX7_look_31 : decode cX7_look 31 = .ok (.iadd, 1) := by decide +kernel
theorem dX7_look_32 : decode cX7_look 32 = .ok (.iaload, 1) := by decide +kernel
theorem dX7_look_33 : decode cX7_look 33 = .ok (.ireturn, 1) := by decide +kernel
theorem dX7_cells_0 : decode cX7_cells 0 = .ok (.aload_n 0, 1) := by decide +kernel
theorem dX7_cells_1 : decode cX7_cells 1 = .ok (.getfield 12, 3) := by decide +kernel
theorem dX7_cells_4 : decode cX7_cells 4 = .ok (.invokevirtual 109, 3) := by decide +kernel
theorem dX7_cells_7 : decode cX7_cells 7 = .ok (.iload_n 1, 1) := by decide +kernel
theorem dX7_cells_8 : decode cX7_cells 8 = .ok (.iload_n 2, 1) := by decide +kernel
theorem dX7_cells_9 : decode cX7_cells 9 = .ok (.invokevirtual 122, 3) := by decide +kernel
theorem dX7_cells_12 : decode cX7_cells 12 = .ok (.ireturn, 1) := by decide +kernel
theorem dX7_waiting_0 : decode cX7_waiting 0 = .ok (.aload_n 0, 1) := by decide +kernel
theorem dX7_waiting_1 : decode cX7_waiting 1 = .ok (.getfield 43, 3) := by decide +kernel
theorem dX7_waiting_4 : decode cX7_waiting 4 = .ok (.getfield 126, 3) := by decide +kernel
theorem dX7_waiting_7 : decode cX7_waiting 7 = .ok (.ireturn, 1) := by decide +kernel
theorem dX7_reply_0 : decode cX7_reply 0 = .ok (.aload_n 0, 1) := by decide +kernel
theorem dX7_reply_1 : decode cX7_reply 1 = .ok (.getfield 43, 3) := by decide +kernel
theorem dX7_reply_4 : decode cX7_reply 4 = .ok (.getfield 126, 3) := by decide +kernel
theorem dX7_reply_7 : decode cX7_reply 7 = .ok (.ifCond .gt 11, 3) := by decide +kernel
theorem dX7_reply_10 : decode cX7_reply 10 = .ok (.new 129, 3) := by decide +kernel
theorem dX7_reply_13 : decode cX7_reply 13 = .ok (.dup, 1) := by decide +kernel
theorem dX7_reply_14 : decode cX7_reply 14 = .ok (.invokespecial 131, 3) := by decide +kernel
theorem dX7_reply_17 : decode cX7_reply 17 = .ok (.athrow, 1) := by decide +kernel
theorem dX7_reply_18 : decode cX7_reply 18 = .ok (.aload_n 0, 1) := by decide +kernel
theorem dX7_reply_19 : decode cX7_reply 19 = .ok (.getfield 43, 3) := by decide +kernel
theorem dX7_reply_22 : decode cX7_reply 22 = .ok (.invokevirtual 132, 3) := by decide +kernel
theorem dX7_reply_25 : decode cX7_reply 25 = .ok (.ireturn, 1) := by decide +kernel
theorem dX7_title_0 : decode cX7_title 0 = .ok (.aload_n 0, 1) := by decide +kernel
theorem dX7_title_1 : decode cX7_title 1 = .ok (.getfield 33, 3) := by decide +kernel
theorem dX7_title_4 : decode cX7_title 4 = .ok (.iload_n 1, 1) := by decide +kernel
theorem dX7_title_5 : decode cX7_title 5 = .ok (.invokevirtual 136, 3) := by decide +kernel
theorem dX7_title_8 : decode cX7_title 8 = .ok (.ireturn, 1) := by decide +kernel
theorem dX7_isCell_0 : decode cX7_isCell 0 = .ok (.iload_n 0, 1) := by decide +kernel
theorem dX7_isCell_1 : decode cX7_isCell 1 = .ok (.ifCond .lt 23, 3) := by decide +kernel
theorem dX7_isCell_4 : decode cX7_isCell 4 = .ok (.iload_n 0, 1) := by decide +kernel
theorem dX7_isCell_5 : decode cX7_isCell 5 = .ok (.bipush 8, 2) := by decide +kernel
theorem dX7_isCell_7 : decode cX7_isCell 7 = .ok (.if_icmp .ge 17, 3) := by decide +kernel
theorem dX7_isCell_10 : decode cX7_isCell 10 = .ok (.iload_n 1, 1) := by decide +kernel
theorem dX7_isCell_11 : decode cX7_isCell 11 = .ok (.ifCond .lt 13, 3) := by decide +kernel
theorem dX7_isCell_14 : decode cX7_isCell 14 = .ok (.iload_n 1, 1) := by decide +kernel
theorem dX7_isCell_15 : decode cX7_isCell 15 = .ok (.bipush 12, 2) := by decide +kernel
theorem dX7_isCell_17 : decode cX7_isCell 17 = .ok (.if_icmp .ge 7, 3) := by decide +kernel
theorem dX7_isCell_20 : decode cX7_isCell 20 = .ok (.iconst 1, 1) := by decide +kernel
theorem dX7_isCell_21 : decode cX7_isCell 21 = .ok (.goto 4, 3) := by decide +kernel
theorem dX7_isCell_24 : decode cX7_isCell 24 = .ok (.iconst 0, 1) := by decide +kernel
theorem dX7_isCell_25 : decode cX7_isCell 25 = .ok (.ireturn, 1) := by decide +kernel
theorem dX7_reset_0 : decode cX7_reset 0 = .ok (.aload_n 0, 1) := by decide +kernel
theorem dX7_reset_1 : decode cX7_reset 1 = .ok (.getfield 12, 3) := by decide +kernel
theorem dX7_reset_4 : decode cX7_reset 4 = .ok (.invokevirtual 140, 3) := by decide +kernel
theorem dX7_reset_7 : decode cX7_reset 7 = .ok (.aload_n 0, 1) := by decide +kernel
theorem dX7_reset_8 : decode cX7_reset 8 = .ok (.getfield 19, 3) := by decide +kernel
theorem dX7_reset_11 : decode cX7_reset 11 = .ok (.invokevirtual 141, 3) := by decide +kernel
theorem dX7_reset_14 : decode cX7_reset 14 = .ok (.aload_n 0, 1) := by decide +kernel
theorem dX7_reset_15 : decode cX7_reset 15 = .ok (.getfield 26, 3) := by decide +kernel
theorem dX7_reset_18 : decode cX7_reset 18 = .ok (.invokevirtual 144, 3) := by decide +kernel
theorem dX7_reset_21 : decode cX7_reset 21 = .ok (.aload_n 0, 1) := by decide +kernel
theorem dX7_reset_22 : decode cX7_reset 22 = .ok (.getfield 33, 3) := by decide +kernel
theorem dX7_reset_25 : decode cX7_reset 25 = .ok (.invokevirtual 147, 3) := by decide +kernel
theorem dX7_reset_28 : decode cX7_reset 28 = .ok (.aload_n 0, 1) := by decide +kernel
theorem dX7_reset_29 : decode cX7_reset 29 = .ok (.getfield 37, 3) := by decide +kernel
theorem dX7_reset_32 : decode cX7_reset 32 = .ok (.invokevirtual 147, 3) := by decide +kernel
theorem dX7_reset_35 : decode cX7_reset 35 = .ok (.aload_n 0, 1) := by decide +kernel
theorem dX7_reset_36 : decode cX7_reset 36 = .ok (.getfield 43, 3) := by decide +kernel
theorem dX7_reset_39 : decode cX7_reset 39 = .ok (.invokevirtual 150, 3) := by decide +kernel
theorem dX7_reset_42 : decode cX7_reset 42 = .ok (.aload_n 0, 1) := by decide +kernel
theorem dX7_reset_43 : decode cX7_reset 43 = .ok (.iconst 0, 1) := by decide +kernel
theorem dX7_reset_44 : decode cX7_reset 44 = .ok (.putfield 47, 3) := by decide +kernel
theorem dX7_reset_47 : decode cX7_reset 47 = .ok (.return_, 1) := by decide +kernel
theorem dX7_take_0 : decode cX7_take 0 = .ok (.aload_n 0, 1) := by decide +kernel
theorem dX7_take_1 : decode cX7_take 1 = .ok (.getfield 19, 3) := by decide +kernel
theorem dX7_take_4 : decode cX7_take 4 = .ok (.getfield 151, 3) := by decide +kernel
theorem dX7_take_7 : decode cX7_take 7 = .ok (.ifCond .le 39, 3) := by decide +kernel
theorem dX7_take_10 : decode cX7_take 10 = .ok (.iload_n 1, 1) := by decide +kernel
theorem dX7_take_11 : decode cX7_take 11 = .ok (.sipush 128, 3) := by decide +kernel
theorem dX7_take_14 : decode cX7_take 14 = .ok (.if_icmp .lt 16, 3) := by decide +kernel
theorem dX7_take_17 : decode cX7_take 17 = .ok (.iload_n 1, 1) := by decide +kernel
theorem dX7_take_18 : decode cX7_take 18 = .ok (.sipush 191, 3) := by decide +kernel
theorem dX7_take_21 : decode cX7_take 21 = .ok (.if_icmp .gt 9, 3) := by decide +kernel
theorem dX7_take_24 : decode cX7_take 24 = .ok (.aload_n 0, 1) := by decide +kernel
theorem dX7_take_25 : decode cX7_take 25 = .ok (.iload_n 1, 1) := by decide +kernel
theorem dX7_take_26 : decode cX7_take 26 = .ok (.invokevirtual 154, 3) := by decide +kernel
theorem dX7_take_29 : decode cX7_take 29 = .ok (.return_, 1) := by decide +kernel
theorem dX7_take_30 : decode cX7_take 30 = .ok (.aload_n 0, 1) := by decide +kernel
theorem dX7_take_31 : decode cX7_take 31 = .ok (.getfield 19, 3) := by decide +kernel
theorem dX7_take_34 : decode cX7_take 34 = .ok (.invokevirtual 141, 3) := by decide +kernel
theorem dX7_take_37 : decode cX7_take 37 = .ok (.aload_n 0, 1) := by decide +kernel
theorem dX7_take_38 : decode cX7_take 38 = .ok (.getfield 12, 3) := by decide +kernel
theorem dX7_take_41 : decode cX7_take 41 = .ok (.ldc 157, 2) := by decide +kernel
theorem dX7_take_43 : decode cX7_take 43 = .ok (.invokevirtual 158, 3) := by decide +kernel
theorem dX7_take_46 : decode cX7_take 46 = .ok (.iload_n 1, 1) := by decide +kernel
theorem dX7_take_47 : decode cX7_take 47 = .ok (.bipush 24, 2) := by decide +kernel
theorem dX7_take_49 : decode cX7_take 49 = .ok (.if_icmp .eq 9, 3) := by decide +kernel
theorem dX7_take_52 : decode cX7_take 52 = .ok (.iload_n 1, 1) := by decide +kernel
theorem dX7_take_53 : decode cX7_take 53 = .ok (.bipush 26, 2) := by decide +kernel
theorem dX7_take_55 : decode cX7_take 55 = .ok (.if_icmp .ne 11, 3) := by decide +kernel
theorem dX7_take_58 : decode cX7_take 58 = .ok (.aload_n 0, 1) := by decide +kernel
theorem dX7_take_59 : decode cX7_take 59 = .ok (.iconst 0, 1) := by decide +kernel
theorem dX7_take_60 : decode cX7_take 60 = .ok (.putfield 47, 3) := by decide +kernel
theorem dX7_take_63 : decode cX7_take 63 = .ok (.goto 128, 3) := by decide +kernel
theorem dX7_take_66 : decode cX7_take 66 = .ok (.iload_n 1, 1) := by decide +kernel
theorem dX7_take_67 : decode cX7_take 67 = .ok (.bipush 27, 2) := by decide +kernel
theorem dX7_take_69 : decode cX7_take 69 = .ok (.if_icmp .ne 11, 3) := by decide +kernel
theorem dX7_take_72 : decode cX7_take 72 = .ok (.aload_n 0, 1) := by decide +kernel
theorem dX7_take_73 : decode cX7_take 73 = .ok (.iconst 1, 1) := by decide +kernel
theorem dX7_take_74 : decode cX7_take 74 = .ok (.putfield 47, 3) := by decide +kernel
theorem dX7_take_77 : decode cX7_take 77 = .ok (.goto 114, 3) := by decide +kernel
theorem dX7_take_80 : decode cX7_take 80 = .ok (.iload_n 1, 1) := by decide +kernel
theorem dX7_take_81 : decode cX7_take 81 = .ok (.bipush 32, 2) := by decide +kernel
theorem dX7_take_83 : decode cX7_take 83 = .ok (.if_icmp .ge 19, 3) := by decide +kernel
theorem dX7_take_86 : decode cX7_take 86 = .ok (.aload_n 0, 1) := by decide +kernel
theorem dX7_take_87 : decode cX7_take 87 = .ok (.getfield 47, 3) := by decide +kernel
theorem dX7_take_90 : decode cX7_take 90 = .ok (.iconst 4, 1) := by decide +kernel
theorem dX7_take_91 : decode cX7_take 91 = .ok (.if_icmp .eq 11, 3) := by decide +kernel
theorem dX7_take_94 : decode cX7_take 94 = .ok (.aload_n 0, 1) := by decide +kernel
theorem dX7_take_95 : decode cX7_take 95 = .ok (.iload_n 1, 1) := by decide +kernel
theorem dX7_take_96 : decode cX7_take 96 = .ok (.invokevirtual 161, 3) := by decide +kernel
theorem dX7_take_99 : decode cX7_take 99 = .ok (.goto 92, 3) := by decide +kernel
theorem dX7_take_102 : decode cX7_take 102 = .ok (.aload_n 0, 1) := by decide +kernel
theorem dX7_take_103 : decode cX7_take 103 = .ok (.getfield 47, 3) := by decide +kernel
theorem dX7_take_106 : decode cX7_take 106 = .ok (.ifCond .ne 11, 3) := by decide +kernel
theorem dX7_take_109 : decode cX7_take 109 = .ok (.aload_n 0, 1) := by decide +kernel
theorem dX7_take_110 : decode cX7_take 110 = .ok (.iload_n 1, 1) := by decide +kernel
theorem dX7_take_111 : decode cX7_take 111 = .ok (.invokevirtual 164, 3) := by decide +kernel
theorem dX7_take_114 : decode cX7_take 114 = .ok (.goto 77, 3) := by decide +kernel
theorem dX7_take_117 : decode cX7_take 117 = .ok (.iload_n 1, 1) := by decide +kernel
theorem dX7_take_118 : decode cX7_take 118 = .ok (.bipush 127, 2) := by decide +kernel
theorem dX7_take_120 : decode cX7_take 120 = .ok (.if_icmp .lt 4, 3) := by decide +kernel
theorem dX7_take_123 : decode cX7_take 123 = .ok (.return_, 1) := by decide +kernel
theorem dX7_take_124 : decode cX7_take 124 = .ok (.aload_n 0, 1) := by decide +kernel
theorem dX7_take_125 : decode cX7_take 125 = .ok (.getfield 47, 3) := by decide +kernel
theorem dX7_take_128 : decode cX7_take 128 = .ok (.iconst 1, 1) := by decide +kernel
theorem dX7_take_129 : decode cX7_take 129 = .ok (.if_icmp .ne 11, 3) := by decide +kernel
theorem dX7_take_132 : decode cX7_take 132 = .ok (.aload_n 0, 1) := by decide +kernel
theorem dX7_take_133 : decode cX7_take 133 = .ok (.iload_n 1, 1) := by decide +kernel
theorem dX7_take_134 : decode cX7_take 134 = .ok (.invokevirtual 167, 3) := by decide +kernel
theorem dX7_take_137 : decode cX7_take 137 = .ok (.goto 54, 3) := by decide +kernel
theorem dX7_take_140 : decode cX7_take 140 = .ok (.aload_n 0, 1) := by decide +kernel
theorem dX7_take_141 : decode cX7_take 141 = .ok (.getfield 47, 3) := by decide +kernel
theorem dX7_take_144 : decode cX7_take 144 = .ok (.iconst 4, 1) := by decide +kernel
theorem dX7_take_145 : decode cX7_take 145 = .ok (.if_icmp .ne 11, 3) := by decide +kernel
theorem dX7_take_148 : decode cX7_take 148 = .ok (.aload_n 0, 1) := by decide +kernel
theorem dX7_take_149 : decode cX7_take 149 = .ok (.iload_n 1, 1) := by decide +kernel
theorem dX7_take_150 : decode cX7_take 150 = .ok (.invokevirtual 170, 3) := by decide +kernel
theorem dX7_take_153 : decode cX7_take 153 = .ok (.goto 38, 3) := by decide +kernel
theorem dX7_take_156 : decode cX7_take 156 = .ok (.iload_n 1, 1) := by decide +kernel
theorem dX7_take_157 : decode cX7_take 157 = .ok (.bipush 64, 2) := by decide +kernel
theorem dX7_take_159 : decode cX7_take 159 = .ok (.if_icmp .ge 11, 3) := by decide +kernel
theorem dX7_take_162 : decode cX7_take 162 = .ok (.aload_n 0, 1) := by decide +kernel
theorem dX7_take_163 : decode cX7_take 163 = .ok (.iload_n 1, 1) := by decide +kernel
theorem dX7_take_164 : decode cX7_take 164 = .ok (.invokevirtual 173, 3) := by decide +kernel
theorem dX7_take_167 : decode cX7_take 167 = .ok (.goto 24, 3) := by decide +kernel
theorem dX7_take_170 : decode cX7_take 170 = .ok (.aload_n 0, 1) := by decide +kernel
theorem dX7_take_171 : decode cX7_take 171 = .ok (.getfield 47, 3) := by decide +kernel
theorem dX7_take_174 : decode cX7_take 174 = .ok (.iconst 2, 1) := by decide +kernel
theorem dX7_take_175 : decode cX7_take 175 = .ok (.if_icmp .ne 11, 3) := by decide +kernel
theorem dX7_take_178 : decode cX7_take 178 = .ok (.aload_n 0, 1) := by decide +kernel
theorem dX7_take_179 : decode cX7_take 179 = .ok (.iload_n 1, 1) := by decide +kernel
theorem dX7_take_180 : decode cX7_take 180 = .ok (.invokevirtual 176, 3) := by decide +kernel
theorem dX7_take_183 : decode cX7_take 183 = .ok (.goto 8, 3) := by decide +kernel
theorem dX7_take_186 : decode cX7_take 186 = .ok (.aload_n 0, 1) := by decide +kernel
theorem dX7_take_187 : decode cX7_take 187 = .ok (.iconst 0, 1) := by decide +kernel
theorem dX7_take_188 : decode cX7_take 188 = .ok (.putfield 47, 3) := by decide +kernel
theorem dX7_take_191 : decode cX7_take 191 = .ok (.return_, 1) := by decide +kernel
theorem dX7_takeFurther_0 : decode cX7_takeFurther 0 = .ok (.aload_n 0, 1) := by decide +kernel
theorem dX7_takeFurther_1 : decode cX7_takeFurther 1 = .ok (.getfield 19, 3) := by decide +kernel
theorem dX7_takeFurther_4 : decode cX7_takeFurther 4 = .ok (.iload_n 1, 1) := by decide +kernel
theorem dX7_takeFurther_5 : decode cX7_takeFurther 5 = .ok (.invokevirtual 179, 3) := by decide +kernel
theorem dX7_takeFurther_8 : decode cX7_takeFurther 8 = .ok (.aload_n 0, 1) := by decide +kernel
theorem dX7_takeFurther_9 : decode cX7_takeFurther 9 = .ok (.getfield 19, 3) := by decide +kernel
theorem dX7_takeFurther_12 : decode cX7_takeFurther 12 = .ok (.getfield 151, 3) := by decide +kernel
theorem dX7_takeFurther_15 : decode cX7_takeFurther 15 = .ok (.ifCond .ne 17, 3) := by decide +kernel
theorem dX7_takeFurther_18 : decode cX7_takeFurther 18 = .ok (.aload_n 0, 1) := by decide +kernel
theorem dX7_takeFurther_19 : decode cX7_takeFurther 19 = .ok (.getfield 12, 3) := by decide +kernel
theorem dX7_takeFurther_22 : decode cX7_takeFurther 22 = .ok (.aload_n 0, 1) := by decide +kernel
theorem dX7_takeFurther_23 : decode cX7_takeFurther 23 = .ok (.getfield 19, 3) := by decide +kernel
theorem dX7_takeFurther_26 : decode cX7_takeFurther 26 = .ok (.invokevirtual 182, 3) := by decide +kernel
theorem dX7_takeFurther_29 : decode cX7_takeFurther 29 = .ok (.invokevirtual 158, 3) := by decide +kernel
theorem dX7_takeFurther_32 : decode cX7_takeFurther 32 = .ok (.return_, 1) := by decide +kernel
theorem dX7_takeInGround_0 : decode cX7_takeInGround 0 = .ok (.iload_n 1, 1) := by decide +kernel
theorem dX7_takeInGround_1 : decode cX7_takeInGround 1 = .ok (.bipush 127, 2) := by decide +kernel
theorem dX7_takeInGround_3 : decode cX7_takeInGround 3 = .ok (.if_icmp .ge 14, 3) := by decide +kernel
theorem dX7_takeInGround_6 : decode cX7_takeInGround 6 = .ok (.aload_n 0, 1) := by decide +kernel
theorem dX7_takeInGround_7 : decode cX7_takeInGround 7 = .ok (.getfield 12, 3) := by decide +kernel
theorem dX7_takeInGround_10 : decode cX7_takeInGround 10 = .ok (.iload_n 1, 1) := by decide +kernel
theorem dX7_takeInGround_11 : decode cX7_takeInGround 11 = .ok (.invokevirtual 158, 3) := by decide +kernel
theorem dX7_takeInGround_14 : decode cX7_takeInGround 14 = .ok (.goto 43, 3) := by decide +kernel
theorem dX7_takeInGround_17 : decode cX7_takeInGround 17 = .ok (.iload_n 1, 1) := by decide +kernel
theorem dX7_takeInGround_18 : decode cX7_takeInGround 18 = .ok (.sipush 194, 3) := by decide +kernel
theorem dX7_takeInGround_21 : decode cX7_takeInGround 21 = .ok (.if_icmp .lt 21, 3) := by decide +kernel
theorem dX7_takeInGround_24 : decode cX7_takeInGround 24 = .ok (.iload_n 1, 1) := by decide +kernel
theorem dX7_takeInGround_25 : decode cX7_takeInGround 25 = .ok (.sipush 244, 3) := by decide +kernel
theorem dX7_takeInGround_28 : decode cX7_takeInGround 28 = .ok (.if_icmp .gt 14, 3) := by decide +kernel
theorem dX7_takeInGround_31 : decode cX7_takeInGround 31 = .ok (.aload_n 0, 1) := by decide +kernel
theorem dX7_takeInGround_32 : decode cX7_takeInGround 32 = .ok (.getfield 19, 3) := by decide +kernel
theorem dX7_takeInGround_35 : decode cX7_takeInGround 35 = .ok (.iload_n 1, 1) := by decide +kernel
theorem dX7_takeInGround_36 : decode cX7_takeInGround 36 = .ok (.invokevirtual 185, 3) := by decide +kernel
theorem dX7_takeInGround_39 : decode cX7_takeInGround 39 = .ok (.goto 18, 3) := by decide +kernel
theorem dX7_takeInGround_42 : decode cX7_takeInGround 42 = .ok (.iload_n 1, 1) := by decide +kernel
theorem dX7_takeInGround_43 : decode cX7_takeInGround 43 = .ok (.bipush 127, 2) := by decide +kernel
theorem dX7_takeInGround_45 : decode cX7_takeInGround 45 = .ok (.if_icmp .le 12, 3) := by decide +kernel
theorem dX7_takeInGround_48 : decode cX7_takeInGround 48 = .ok (.aload_n 0, 1) := by decide +kernel
theorem dX7_takeInGround_49 : decode cX7_takeInGround 49 = .ok (.getfield 12, 3) := by decide +kernel
theorem dX7_takeInGround_52 : decode cX7_takeInGround 52 = .ok (.ldc 157, 2) := by decide +kernel
theorem dX7_takeInGround_54 : decode cX7_takeInGround 54 = .ok (.invokevirtual 158, 3) := by decide +kernel
theorem dX7_takeInGround_57 : decode cX7_takeInGround 57 = .ok (.return_, 1) := by decide +kernel
theorem dX7_control_0 : decode cX7_control 0 = .ok (.iload_n 1, 1) := by decide +kernel
theorem dX7_control_1 : decode cX7_control 1 = .ok (.tableswitch 101 7 13 #[43, 59, 70, 80, 80, 80, 90], 43) := by decide +kernel
theorem dX7_control_44 : decode cX7_control 44 = .ok (.aload_n 0, 1) := by decide +kernel
theorem dX7_control_45 : decode cX7_control 45 = .ok (.getfield 12, 3) := by decide +kernel
theorem dX7_control_48 : decode cX7_control 48 = .ok (.dup, 1) := by decide +kernel
theorem dX7_control_49 : decode cX7_control 49 = .ok (.getfield 99, 3) := by decide +kernel
theorem dX7_control_52 : decode cX7_control 52 = .ok (.iconst 1, 1) := by decide +kernel
theorem dX7_control_53 : decode cX7_control 53 = .ok (.iadd, 1) := by decide +kernel
theorem dX7_control_54 : decode cX7_control 54 = .ok (.putfield 99, 3) := by decide +kernel
theorem dX7_control_57 : decode cX7_control 57 = .ok (.goto 45, 3) := by decide +kernel
theorem dX7_control_60 : decode cX7_control 60 = .ok (.aload_n 0, 1) := by decide +kernel
theorem dX7_control_61 : decode cX7_control 61 = .ok (.getfield 12, 3) := by decide +kernel
theorem dX7_control_64 : decode cX7_control 64 = .ok (.iconst 1, 1) := by decide +kernel
theorem dX7_control_65 : decode cX7_control 65 = .ok (.invokevirtual 187, 3) := by decide +kernel
theorem dX7_control_68 : decode cX7_control 68 = .ok (.goto 34, 3) := by decide +kernel
theorem dX7_control_71 : decode cX7_control 71 = .ok (.aload_n 0, 1) := by decide +kernel
theorem dX7_control_72 : decode cX7_control 72 = .ok (.getfield 12, 3) := by decide +kernel
theorem dX7_control_75 : decode cX7_control 75 = .ok (.invokevirtual 190, 3) := by decide +kernel
theorem dX7_control_78 : decode cX7_control 78 = .ok (.goto 24, 3) := by decide +kernel
theorem dX7_control_81 : decode cX7_control 81 = .ok (.aload_n 0, 1) := by decide +kernel
theorem dX7_control_82 : decode cX7_control 82 = .ok (.getfield 12, 3) := by decide +kernel
theorem dX7_control_85 : decode cX7_control 85 = .ok (.invokevirtual 193, 3) := by decide +kernel
theorem dX7_control_88 : decode cX7_control 88 = .ok (.goto 14, 3) := by decide +kernel
theorem dX7_control_91 : decode cX7_control 91 = .ok (.aload_n 0, 1) := by decide +kernel
theorem dX7_control_92 : decode cX7_control 92 = .ok (.getfield 12, 3) := by decide +kernel
theorem dX7_control_95 : decode cX7_control 95 = .ok (.iconst 0, 1) := by decide +kernel
theorem dX7_control_96 : decode cX7_control 96 = .ok (.invokevirtual 196, 3) := by decide +kernel
theorem dX7_control_99 : decode cX7_control 99 = .ok (.goto 3, 3) := by decide +kernel
theorem dX7_control_102 : decode cX7_control 102 = .ok (.return_, 1) := by decide +kernel
theorem dX7_takeInEscape_0 : decode cX7_takeInEscape 0 = .ok (.aload_n 0, 1) := by decide +kernel
theorem dX7_takeInEscape_1 : decode cX7_takeInEscape 1 = .ok (.iload_n 1, 1) := by decide +kernel
theorem dX7_takeInEscape_2 : decode cX7_takeInEscape 2 = .ok (.bipush 48, 2) := by decide +kernel
theorem dX7_takeInEscape_4 : decode cX7_takeInEscape 4 = .ok (.if_icmp .ge 7, 3) := by decide +kernel
theorem dX7_takeInEscape_7 : decode cX7_takeInEscape 7 = .ok (.iconst 3, 1) := by decide +kernel
theorem dX7_takeInEscape_8 : decode cX7_takeInEscape 8 = .ok (.goto 4, 3) := by decide +kernel
theorem dX7_takeInEscape_11 : decode cX7_takeInEscape 11 = .ok (.iconst 0, 1) := by decide +kernel
theorem dX7_takeInEscape_12 : decode cX7_takeInEscape 12 = .ok (.putfield 47, 3) := by decide +kernel
theorem dX7_takeInEscape_15 : decode cX7_takeInEscape 15 = .ok (.iload_n 1, 1) := by decide +kernel
theorem dX7_takeInEscape_16 : decode cX7_takeInEscape 16 = .ok (.lookupswitch 189 #[(55, 114), (56, 124), (68, 134), (69, 144), (72, 162), (77, 172), (91, 84), (93, 99), (99, 182)], 84) := by decide +kernel
theorem dX7_takeInEscape_100 : decode cX7_takeInEscape 100 = .ok (.aload_n 0, 1) := by decide +kernel
theorem dX7_takeInEscape_101 : decode cX7_takeInEscape 101 = .ok (.getfield 26, 3) := by decide +kernel
theorem dX7_takeInEscape_104 : decode cX7_takeInEscape 104 = .ok (.invokevirtual 144, 3) := by decide +kernel
theorem dX7_takeInEscape_107 : decode cX7_takeInEscape 107 = .ok (.aload_n 0, 1) := by decide +kernel
theorem dX7_takeInEscape_108 : decode cX7_takeInEscape 108 = .ok (.iconst 2, 1) := by decide +kernel
theorem dX7_takeInEscape_109 : decode cX7_takeInEscape 109 = .ok (.putfield 47, 3) := by decide +kernel
theorem dX7_takeInEscape_112 : decode cX7_takeInEscape 112 = .ok (.goto 93, 3) := by decide +kernel
theorem dX7_takeInEscape_115 : decode cX7_takeInEscape 115 = .ok (.aload_n 0, 1) := by decide +kernel
theorem dX7_takeInEscape_116 : decode cX7_takeInEscape 116 = .ok (.getfield 37, 3) := by decide +kernel
theorem dX7_takeInEscape_119 : decode cX7_takeInEscape 119 = .ok (.invokevirtual 147, 3) := by decide +kernel
theorem dX7_takeInEscape_122 : decode cX7_takeInEscape 122 = .ok (.aload_n 0, 1) := by decide +kernel
theorem dX7_takeInEscape_123 : decode cX7_takeInEscape 123 = .ok (.iconst 4, 1) := by decide +kernel
theorem dX7_takeInEscape_124 : decode cX7_takeInEscape 124 = .ok (.putfield 47, 3) := by decide +kernel
theorem dX7_takeInEscape_127 : decode cX7_takeInEscape 127 = .ok (.goto 78, 3) := by decide +kernel
theorem dX7_takeInEscape_130 : decode cX7_takeInEscape 130 = .ok (.aload_n 0, 1) := by decide +kernel
theorem dX7_takeInEscape_131 : decode cX7_takeInEscape 131 = .ok (.getfield 12, 3) := by decide +kernel
theorem dX7_takeInEscape_134 : decode cX7_takeInEscape 134 = .ok (.invokevirtual 199, 3) := by decide +kernel
theorem dX7_takeInEscape_137 : decode cX7_takeInEscape 137 = .ok (.goto 68, 3) := by decide +kernel
theorem dX7_takeInEscape_140 : decode cX7_takeInEscape 140 = .ok (.aload_n 0, 1) := by decide +kernel
theorem dX7_takeInEscape_141 : decode cX7_takeInEscape 141 = .ok (.getfield 12, 3) := by decide +kernel
theorem dX7_takeInEscape_144 : decode cX7_takeInEscape 144 = .ok (.invokevirtual 202, 3) := by decide +kernel
theorem dX7_takeInEscape_147 : decode cX7_takeInEscape 147 = .ok (.goto 58, 3) := by decide +kernel
theorem dX7_takeInEscape_150 : decode cX7_takeInEscape 150 = .ok (.aload_n 0, 1) := by decide +kernel
theorem dX7_takeInEscape_151 : decode cX7_takeInEscape 151 = .ok (.getfield 12, 3) := by decide +kernel
theorem dX7_takeInEscape_154 : decode cX7_takeInEscape 154 = .ok (.invokevirtual 193, 3) := by decide +kernel
theorem dX7_takeInEscape_157 : decode cX7_takeInEscape 157 = .ok (.goto 48, 3) := by decide +kernel
theorem dX7_takeInEscape_160 : decode cX7_takeInEscape 160 = .ok (.aload_n 0, 1) := by decide +kernel
theorem dX7_takeInEscape_161 : decode cX7_takeInEscape 161 = .ok (.getfield 12, 3) := by decide +kernel
theorem dX7_takeInEscape_164 : decode cX7_takeInEscape 164 = .ok (.iconst 0, 1) := by decide +kernel
theorem dX7_takeInEscape_165 : decode cX7_takeInEscape 165 = .ok (.invokevirtual 196, 3) := by decide +kernel
theorem dX7_takeInEscape_168 : decode cX7_takeInEscape 168 = .ok (.aload_n 0, 1) := by decide +kernel
theorem dX7_takeInEscape_169 : decode cX7_takeInEscape 169 = .ok (.getfield 12, 3) := by decide +kernel
theorem dX7_takeInEscape_172 : decode cX7_takeInEscape 172 = .ok (.invokevirtual 193, 3) := by decide +kernel
theorem dX7_takeInEscape_175 : decode cX7_takeInEscape 175 = .ok (.goto 30, 3) := by decide +kernel
theorem dX7_takeInEscape_178 : decode cX7_takeInEscape 178 = .ok (.aload_n 0, 1) := by decide +kernel
theorem dX7_takeInEscape_179 : decode cX7_takeInEscape 179 = .ok (.getfield 12, 3) := by decide +kernel
theorem dX7_takeInEscape_182 : decode cX7_takeInEscape 182 = .ok (.invokevirtual 205, 3) := by decide +kernel
theorem dX7_takeInEscape_185 : decode cX7_takeInEscape 185 = .ok (.goto 20, 3) := by decide +kernel
theorem dX7_takeInEscape_188 : decode cX7_takeInEscape 188 = .ok (.aload_n 0, 1) := by decide +kernel
theorem dX7_takeInEscape_189 : decode cX7_takeInEscape 189 = .ok (.getfield 12, 3) := by decide +kernel
theorem dX7_takeInEscape_192 : decode cX7_takeInEscape 192 = .ok (.invokevirtual 208, 3) := by decide +kernel
theorem dX7_takeInEscape_195 : decode cX7_takeInEscape 195 = .ok (.goto 10, 3) := by decide +kernel
theorem dX7_takeInEscape_198 : decode cX7_takeInEscape 198 = .ok (.aload_n 0, 1) := by decide +kernel
theorem dX7_takeInEscape_199 : decode cX7_takeInEscape 199 = .ok (.invokevirtual 51, 3) := by decide +kernel
theorem dX7_takeInEscape_202 : decode cX7_takeInEscape 202 = .ok (.goto 3, 3) := by decide +kernel
theorem dX7_takeInEscape_205 : decode cX7_takeInEscape 205 = .ok (.return_, 1) := by decide +kernel
theorem dX7_takeBeforeEnd_0 : decode cX7_takeBeforeEnd 0 = .ok (.aload_n 0, 1) := by decide +kernel
theorem dX7_takeBeforeEnd_1 : decode cX7_takeBeforeEnd 1 = .ok (.getfield 47, 3) := by decide +kernel
theorem dX7_takeBeforeEnd_4 : decode cX7_takeBeforeEnd 4 = .ok (.iconst 3, 1) := by decide +kernel
theorem dX7_takeBeforeEnd_5 : decode cX7_takeBeforeEnd 5 = .ok (.if_icmp .ne 4, 3) := by decide +kernel
theorem dX7_takeBeforeEnd_8 : decode cX7_takeBeforeEnd 8 = .ok (.return_, 1) := by decide +kernel
theorem dX7_takeBeforeEnd_9 : decode cX7_takeBeforeEnd 9 = .ok (.iload_n 1, 1) := by decide +kernel
theorem dX7_takeBeforeEnd_10 : decode cX7_takeBeforeEnd 10 = .ok (.bipush 48, 2) := by decide +kernel
theorem dX7_takeBeforeEnd_12 : decode cX7_takeBeforeEnd 12 = .ok (.if_icmp .lt 23, 3) := by decide +kernel
theorem dX7_takeBeforeEnd_15 : decode cX7_takeBeforeEnd 15 = .ok (.iload_n 1, 1) := by decide +kernel
theorem dX7_takeBeforeEnd_16 : decode cX7_takeBeforeEnd 16 = .ok (.bipush 57, 2) := by decide +kernel
theorem dX7_takeBeforeEnd_18 : decode cX7_takeBeforeEnd 18 = .ok (.if_icmp .gt 17, 3) := by decide +kernel
theorem dX7_takeBeforeEnd_21 : decode cX7_takeBeforeEnd 21 = .ok (.aload_n 0, 1) := by decide +kernel
theorem dX7_takeBeforeEnd_22 : decode cX7_takeBeforeEnd 22 = .ok (.getfield 26, 3) := by decide +kernel
theorem dX7_takeBeforeEnd_25 : decode cX7_takeBeforeEnd 25 = .ok (.iload_n 1, 1) := by decide +kernel
theorem dX7_takeBeforeEnd_26 : decode cX7_takeBeforeEnd 26 = .ok (.bipush 48, 2) := by decide +kernel
theorem dX7_takeBeforeEnd_28 : decode cX7_takeBeforeEnd 28 = .ok (.isub, 1) := by decide +kernel
theorem dX7_takeBeforeEnd_29 : decode cX7_takeBeforeEnd 29 = .ok (.invokevirtual 211, 3) := by decide +kernel
theorem dX7_takeBeforeEnd_32 : decode cX7_takeBeforeEnd 32 = .ok (.goto 51, 3) := by decide +kernel
theorem dX7_takeBeforeEnd_35 : decode cX7_takeBeforeEnd 35 = .ok (.iload_n 1, 1) := by decide +kernel
theorem dX7_takeBeforeEnd_36 : decode cX7_takeBeforeEnd 36 = .ok (.bipush 59, 2) := by decide +kernel
theorem dX7_takeBeforeEnd_38 : decode cX7_takeBeforeEnd 38 = .ok (.if_icmp .ne 13, 3) := by decide +kernel
theorem dX7_takeBeforeEnd_41 : decode cX7_takeBeforeEnd 41 = .ok (.aload_n 0, 1) := by decide +kernel
theorem dX7_takeBeforeEnd_42 : decode cX7_takeBeforeEnd 42 = .ok (.getfield 26, 3) := by decide +kernel
theorem dX7_takeBeforeEnd_45 : decode cX7_takeBeforeEnd 45 = .ok (.invokevirtual 214, 3) := by decide +kernel
theorem dX7_takeBeforeEnd_48 : decode cX7_takeBeforeEnd 48 = .ok (.goto 35, 3) := by decide +kernel
theorem dX7_takeBeforeEnd_51 : decode cX7_takeBeforeEnd 51 = .ok (.iload_n 1, 1) := by decide +kernel
theorem dX7_takeBeforeEnd_52 : decode cX7_takeBeforeEnd 52 = .ok (.bipush 63, 2) := by decide +kernel
theorem dX7_takeBeforeEnd_54 : decode cX7_takeBeforeEnd 54 = .ok (.if_icmp .ne 24, 3) := by decide +kernel
theorem dX7_takeBeforeEnd_57 : decode cX7_takeBeforeEnd 57 = .ok (.aload_n 0, 1) := by decide +kernel
theorem dX7_takeBeforeEnd_58 : decode cX7_takeBeforeEnd 58 = .ok (.getfield 26, 3) := by decide +kernel
theorem dX7_takeBeforeEnd_61 : decode cX7_takeBeforeEnd 61 = .ok (.invokevirtual 217, 3) := by decide +kernel
theorem dX7_takeBeforeEnd_64 : decode cX7_takeBeforeEnd 64 = .ok (.ifCond .eq 14, 3) := by decide +kernel
theorem dX7_takeBeforeEnd_67 : decode cX7_takeBeforeEnd 67 = .ok (.aload_n 0, 1) := by decide +kernel
theorem dX7_takeBeforeEnd_68 : decode cX7_takeBeforeEnd 68 = .ok (.getfield 26, 3) := by decide +kernel
theorem dX7_takeBeforeEnd_71 : decode cX7_takeBeforeEnd 71 = .ok (.iconst 1, 1) := by decide +kernel
theorem dX7_takeBeforeEnd_72 : decode cX7_takeBeforeEnd 72 = .ok (.putfield 221, 3) := by decide +kernel
theorem dX7_takeBeforeEnd_75 : decode cX7_takeBeforeEnd 75 = .ok (.goto 8, 3) := by decide +kernel
theorem dX7_takeBeforeEnd_78 : decode cX7_takeBeforeEnd 78 = .ok (.aload_n 0, 1) := by decide +kernel
theorem dX7_takeBeforeEnd_79 : decode cX7_takeBeforeEnd 79 = .ok (.iconst 3, 1) := by decide +kernel
theorem dX7_takeBeforeEnd_80 : decode cX7_takeBeforeEnd 80 = .ok (.putfield 47, 3) := by decide +kernel
theorem dX7_takeBeforeEnd_83 : decode cX7_takeBeforeEnd 83 = .ok (.return_, 1) := by decide +kernel
theorem dX7_takeInTitle_0 : decode cX7_takeInTitle 0 = .ok (.iload_n 1, 1) := by decide +kernel
theorem dX7_takeInTitle_1 : decode cX7_takeInTitle 1 = .ok (.bipush 32, 2) := by decide +kernel
theorem dX7_takeInTitle_3 : decode cX7_takeInTitle 3 = .ok (.if_icmp .lt 14, 3) := by decide +kernel
theorem dX7_takeInTitle_6 : decode cX7_takeInTitle 6 = .ok (.aload_n 0, 1) := by decide +kernel
theorem dX7_takeInTitle_7 : decode cX7_takeInTitle 7 = .ok (.getfield 37, 3) := by decide +kernel
theorem dX7_takeInTitle_10 : decode cX7_takeInTitle 10 = .ok (.iload_n 1, 1) := by decide +kernel
theorem dX7_takeInTitle_11 : decode cX7_takeInTitle 11 = .ok (.invokevirtual 224, 3) := by decide +kernel
theorem dX7_takeInTitle_14 : decode cX7_takeInTitle 14 = .ok (.goto 25, 3) := by decide +kernel
theorem dX7_takeInTitle_17 : decode cX7_takeInTitle 17 = .ok (.iload_n 1, 1) := by decide +kernel
theorem dX7_takeInTitle_18 : decode cX7_takeInTitle 18 = .ok (.bipush 7, 2) := by decide +kernel
theorem dX7_takeInTitle_20 : decode cX7_takeInTitle 20 = .ok (.if_icmp .ne 19, 3) := by decide +kernel
theorem dX7_takeInTitle_23 : decode cX7_takeInTitle 23 = .ok (.aload_n 0, 1) := by decide +kernel
theorem dX7_takeInTitle_24 : decode cX7_takeInTitle 24 = .ok (.getfield 33, 3) := by decide +kernel
theorem dX7_takeInTitle_27 : decode cX7_takeInTitle 27 = .ok (.aload_n 0, 1) := by decide +kernel
theorem dX7_takeInTitle_28 : decode cX7_takeInTitle 28 = .ok (.getfield 37, 3) := by decide +kernel
theorem dX7_takeInTitle_31 : decode cX7_takeInTitle 31 = .ok (.invokevirtual 225, 3) := by decide +kernel
theorem dX7_takeInTitle_34 : decode cX7_takeInTitle 34 = .ok (.aload_n 0, 1) := by decide +kernel
theorem dX7_takeInTitle_35 : decode cX7_takeInTitle 35 = .ok (.iconst 0, 1) := by decide +kernel
theorem dX7_takeInTitle_36 : decode cX7_takeInTitle 36 = .ok (.putfield 47, 3) := by decide +kernel
theorem dX7_takeInTitle_39 : decode cX7_takeInTitle 39 = .ok (.return_, 1) := by decide +kernel
theorem dX7_doSequence_0 : decode cX7_doSequence 0 = .ok (.aload_n 0, 1) := by decide +kernel
theorem dX7_doSequence_1 : decode cX7_doSequence 1 = .ok (.iconst 0, 1) := by decide +kernel
theorem dX7_doSequence_2 : decode cX7_doSequence 2 = .ok (.putfield 47, 3) := by decide +kernel
theorem dX7_doSequence_5 : decode cX7_doSequence 5 = .ok (.aload_n 0, 1) := by decide +kernel
theorem dX7_doSequence_6 : decode cX7_doSequence 6 = .ok (.getfield 26, 3) := by decide +kernel
theorem dX7_doSequence_9 : decode cX7_doSequence 9 = .ok (.getfield 221, 3) := by decide +kernel
theorem dX7_doSequence_12 : decode cX7_doSequence 12 = .ok (.ifCond .eq 9, 3) := by decide +kernel
theorem dX7_doSequence_15 : decode cX7_doSequence 15 = .ok (.aload_n 0, 1) := by decide +kernel
theorem dX7_doSequence_16 : decode cX7_doSequence 16 = .ok (.iload_n 1, 1) := by decide +kernel
theorem dX7_doSequence_17 : decode cX7_doSequence 17 = .ok (.invokevirtual 229, 3) := by decide +kernel
theorem dX7_doSequence_20 : decode cX7_doSequence 20 = .ok (.return_, 1) := by decide +kernel
theorem dX7_doSequence_21 : decode cX7_doSequence 21 = .ok (.aload_n 0, 1) := by decide +kernel
theorem dX7_doSequence_22 : decode cX7_doSequence 22 = .ok (.getfield 26, 3) := by decide +kernel
theorem dX7_doSequence_25 : decode cX7_doSequence 25 = .ok (.iconst 0, 1) := by decide +kernel
theorem dX7_doSequence_26 : decode cX7_doSequence 26 = .ok (.invokevirtual 232, 3) := by decide +kernel
theorem dX7_doSequence_29 : decode cX7_doSequence 29 = .ok (.istore_n 2, 1) := by decide +kernel
theorem dX7_doSequence_30 : decode cX7_doSequence 30 = .ok (.aload_n 0, 1) := by decide +kernel
theorem dX7_doSequence_31 : decode cX7_doSequence 31 = .ok (.getfield 26, 3) := by decide +kernel
theorem dX7_doSequence_34 : decode cX7_doSequence 34 = .ok (.iconst 1, 1) := by decide +kernel
theorem dX7_doSequence_35 : decode cX7_doSequence 35 = .ok (.invokevirtual 232, 3) := by decide +kernel
theorem dX7_doSequence_38 : decode cX7_doSequence 38 = .ok (.istore_n 3, 1) := by decide +kernel
theorem dX7_doSequence_39 : decode cX7_doSequence 39 = .ok (.iload_n 2, 1) := by decide +kernel
theorem dX7_doSequence_40 : decode cX7_doSequence 40 = .ok (.ifCond .ne 7, 3) := by decide +kernel
theorem dX7_doSequence_43 : decode cX7_doSequence 43 = .ok (.iconst 1, 1) := by decide +kernel
theorem dX7_doSequence_44 : decode cX7_doSequence 44 = .ok (.goto 4, 3) := by decide +kernel
theorem dX7_doSequence_47 : decode cX7_doSequence 47 = .ok (.iload_n 2, 1) := by decide +kernel
theorem dX7_doSequence_48 : decode cX7_doSequence 48 = .ok (.istore 4, 2) := by decide +kernel
theorem dX7_doSequence_50 : decode cX7_doSequence 50 = .ok (.iload_n 1, 1) := by decide +kernel
theorem dX7_doSequence_51 : decode cX7_doSequence 51 = .ok (.tableswitch 576 64 117 #[404, 229, 241, 253, 265, 277, 297, 317, 345, 576, 370, 381, 428, 440, 576, 576, 416, 576, 576, 452, 464, 576, 576, 576, 392, 576, 576, 576, 576, 576, 576, 576, 576, 576, 476, 576, 331, 576, 345, 541, 552, 576, 576, 576, 560, 488, 568, 576, 576, 576, 495, 521, 576, 531], 229) := by decide +kernel
theorem dX7_doSequence_280 : decode cX7_doSequence 280 = .ok (.aload_n 0, 1) := by decide +kernel
theorem dX7_doSequence_281 : decode cX7_doSequence 281 = .ok (.getfield 12, 3) := by decide +kernel
theorem dX7_doSequence_284 : decode cX7_doSequence 284 = .ok (.iload 4, 2) := by decide +kernel
theorem dX7_doSequence_286 : decode cX7_doSequence 286 = .ok (.invokevirtual 235, 3) := by decide +kernel
theorem dX7_doSequence_289 : decode cX7_doSequence 289 = .ok (.goto 338, 3) := by decide +kernel
theorem dX7_doSequence_292 : decode cX7_doSequence 292 = .ok (.aload_n 0, 1) := by decide +kernel
theorem dX7_doSequence_293 : decode cX7_doSequence 293 = .ok (.getfield 12, 3) := by decide +kernel
theorem dX7_doSequence_296 : decode cX7_doSequence 296 = .ok (.iload 4, 2) := by decide +kernel
theorem dX7_doSequence_298 : decode cX7_doSequence 298 = .ok (.invokevirtual 238, 3) := by decide +kernel
theorem dX7_doSequence_301 : decode cX7_doSequence 301 = .ok (.goto 326, 3) := by decide +kernel
theorem dX7_doSequence_304 : decode cX7_doSequence 304 = .ok (.aload_n 0, 1) := by decide +kernel
theorem dX7_doSequence_305 : decode cX7_doSequence 305 = .ok (.getfield 12, 3) := by decide +kernel
theorem dX7_doSequence_308 : decode cX7_doSequence 308 = .ok (.iload 4, 2) := by decide +kernel
theorem dX7_doSequence_310 : decode cX7_doSequence 310 = .ok (.invokevirtual 241, 3) := by decide +kernel
theorem dX7_doSequence_313 : decode cX7_doSequence 313 = .ok (.goto 314, 3) := by decide +kernel
theorem dX7_doSequence_316 : decode cX7_doSequence 316 = .ok (.aload_n 0, 1) := by decide +kernel
theorem dX7_doSequence_317 : decode cX7_doSequence 317 = .ok (.getfield 12, 3) := by decide +kernel
theorem dX7_doSequence_320 : decode cX7_doSequence 320 = .ok (.iload 4, 2) := by decide +kernel
theorem dX7_doSequence_322 : decode cX7_doSequence 322 = .ok (.invokevirtual 187, 3) := by decide +kernel
theorem dX7_doSequence_325 : decode cX7_doSequence 325 = .ok (.goto 302, 3) := by decide +kernel
theorem dX7_doSequence_328 : decode cX7_doSequence 328 = .ok (.aload_n 0, 1) := by decide +kernel
theorem dX7_doSequence_329 : decode cX7_doSequence 329 = .ok (.getfield 12, 3) := by decide +kernel
theorem dX7_doSequence_332 : decode cX7_doSequence 332 = .ok (.iload 4, 2) := by decide +kernel
theorem dX7_doSequence_334 : decode cX7_doSequence 334 = .ok (.invokevirtual 238, 3) := by decide +kernel
theorem dX7_doSequence_337 : decode cX7_doSequence 337 = .ok (.aload_n 0, 1) := by decide +kernel
theorem dX7_doSequence_338 : decode cX7_doSequence 338 = .ok (.getfield 12, 3) := by decide +kernel
theorem dX7_doSequence_341 : decode cX7_doSequence 341 = .ok (.iconst 0, 1) := by decide +kernel
theorem dX7_doSequence_342 : decode cX7_doSequence 342 = .ok (.invokevirtual 196, 3) := by decide +kernel
theorem dX7_doSequence_345 : decode cX7_doSequence 345 = .ok (.goto 282, 3) := by decide +kernel
theorem dX7_doSequence_348 : decode cX7_doSequence 348 = .ok (.aload_n 0, 1) := by decide +kernel
theorem dX7_doSequence_349 : decode cX7_doSequence 349 = .ok (.getfield 12, 3) := by decide +kernel
theorem dX7_doSequence_352 : decode cX7_doSequence 352 = .ok (.iload 4, 2) := by decide +kernel
theorem dX7_doSequence_354 : decode cX7_doSequence 354 = .ok (.invokevirtual 235, 3) := by decide +kernel
theorem dX7_doSequence_357 : decode cX7_doSequence 357 = .ok (.aload_n 0, 1) := by decide +kernel
theorem dX7_doSequence_358 : decode cX7_doSequence 358 = .ok (.getfield 12, 3) := by decide +kernel
theorem dX7_doSequence_361 : decode cX7_doSequence 361 = .ok (.iconst 0, 1) := by decide +kernel
theorem dX7_doSequence_362 : decode cX7_doSequence 362 = .ok (.invokevirtual 196, 3) := by decide +kernel
theorem dX7_doSequence_365 : decode cX7_doSequence 365 = .ok (.goto 262, 3) := by decide +kernel
theorem dX7_doSequence_368 : decode cX7_doSequence 368 = .ok (.aload_n 0, 1) := by decide +kernel
theorem dX7_doSequence_369 : decode cX7_doSequence 369 = .ok (.getfield 12, 3) := by decide +kernel
theorem dX7_doSequence_372 : decode cX7_doSequence 372 = .ok (.iload 4, 2) := by decide +kernel
theorem dX7_doSequence_374 : decode cX7_doSequence 374 = .ok (.iconst 1, 1) := by decide +kernel
theorem dX7_doSequence_375 : decode cX7_doSequence 375 = .ok (.isub, 1) := by decide +kernel
theorem dX7_doSequence_376 : decode cX7_doSequence 376 = .ok (.invokevirtual 196, 3) := by decide +kernel
theorem dX7_doSequence_379 : decode cX7_doSequence 379 = .ok (.goto 248, 3) := by decide +kernel
theorem dX7_doSequence_382 : decode cX7_doSequence 382 = .ok (.aload_n 0, 1) := by decide +kernel
theorem dX7_doSequence_383 : decode cX7_doSequence 383 = .ok (.getfield 12, 3) := by decide +kernel
theorem dX7_doSequence_386 : decode cX7_doSequence 386 = .ok (.iload 4, 2) := by decide +kernel
theorem dX7_doSequence_388 : decode cX7_doSequence 388 = .ok (.iconst 1, 1) := by decide +kernel
theorem dX7_doSequence_389 : decode cX7_doSequence 389 = .ok (.isub, 1) := by decide +kernel
theorem dX7_doSequence_390 : decode cX7_doSequence 390 = .ok (.invokevirtual 244, 3) := by decide +kernel
theorem dX7_doSequence_393 : decode cX7_doSequence 393 = .ok (.goto 234, 3) := by decide +kernel
theorem dX7_doSequence_396 : decode cX7_doSequence 396 = .ok (.aload_n 0, 1) := by decide +kernel
theorem dX7_doSequence_397 : decode cX7_doSequence 397 = .ok (.getfield 12, 3) := by decide +kernel
theorem dX7_doSequence_400 : decode cX7_doSequence 400 = .ok (.iload 4, 2) := by decide +kernel
theorem dX7_doSequence_402 : decode cX7_doSequence 402 = .ok (.iconst 1, 1) := by decide +kernel
theorem dX7_doSequence_403 : decode cX7_doSequence 403 = .ok (.isub, 1) := by decide +kernel
theorem dX7_doSequence_404 : decode cX7_doSequence 404 = .ok (.iload_n 3, 1) := by decide +kernel
theorem dX7_doSequence_405 : decode cX7_doSequence 405 = .ok (.ifCond .ne 7, 3) := by decide +kernel
theorem dX7_doSequence_408 : decode cX7_doSequence 408 = .ok (.iconst 0, 1) := by decide +kernel
theorem dX7_doSequence_409 : decode cX7_doSequence 409 = .ok (.goto 6, 3) := by decide +kernel
theorem dX7_doSequence_412 : decode cX7_doSequence 412 = .ok (.iload_n 3, 1) := by decide +kernel
theorem dX7_doSequence_413 : decode cX7_doSequence 413 = .ok (.iconst 1, 1) := by decide +kernel
theorem dX7_doSequence_414 : decode cX7_doSequence 414 = .ok (.isub, 1) := by decide +kernel
theorem dX7_doSequence_415 : decode cX7_doSequence 415 = .ok (.invokevirtual 247, 3) := by decide +kernel
theorem dX7_doSequence_418 : decode cX7_doSequence 418 = .ok (.goto 209, 3) := by decide +kernel
theorem dX7_doSequence_421 : decode cX7_doSequence 421 = .ok (.aload_n 0, 1) := by decide +kernel
theorem dX7_doSequence_422 : decode cX7_doSequence 422 = .ok (.getfield 12, 3) := by decide +kernel
theorem dX7_doSequence_425 : decode cX7_doSequence 425 = .ok (.iload_n 2, 1) := by decide +kernel
theorem dX7_doSequence_426 : decode cX7_doSequence 426 = .ok (.invokevirtual 251, 3) := by decide +kernel
theorem dX7_doSequence_429 : decode cX7_doSequence 429 = .ok (.goto 198, 3) := by decide +kernel
theorem dX7_doSequence_432 : decode cX7_doSequence 432 = .ok (.aload_n 0, 1) := by decide +kernel
theorem dX7_doSequence_433 : decode cX7_doSequence 433 = .ok (.getfield 12, 3) := by decide +kernel
theorem dX7_doSequence_436 : decode cX7_doSequence 436 = .ok (.iload_n 2, 1) := by decide +kernel
theorem dX7_doSequence_437 : decode cX7_doSequence 437 = .ok (.invokevirtual 254, 3) := by decide +kernel
theorem dX7_doSequence_440 : decode cX7_doSequence 440 = .ok (.goto 187, 3) := by decide +kernel
theorem dX7_doSequence_443 : decode cX7_doSequence 443 = .ok (.aload_n 0, 1) := by decide +kernel
theorem dX7_doSequence_444 : decode cX7_doSequence 444 = .ok (.getfield 12, 3) := by decide +kernel
theorem dX7_doSequence_447 : decode cX7_doSequence 447 = .ok (.iload 4, 2) := by decide +kernel
theorem dX7_doSequence_449 : decode cX7_doSequence 449 = .ok (.invokevirtual 257, 3) := by decide +kernel
theorem dX7_doSequence_452 : decode cX7_doSequence 452 = .ok (.goto 175, 3) := by decide +kernel
theorem dX7_doSequence_455 : decode cX7_doSequence 455 = .ok (.aload_n 0, 1) := by decide +kernel
theorem dX7_doSequence_456 : decode cX7_doSequence 456 = .ok (.getfield 12, 3) := by decide +kernel
theorem dX7_doSequence_459 : decode cX7_doSequence 459 = .ok (.iload 4, 2) := by decide +kernel
theorem dX7_doSequence_461 : decode cX7_doSequence 461 = .ok (.invokevirtual 260, 3) := by decide +kernel
theorem dX7_doSequence_464 : decode cX7_doSequence 464 = .ok (.goto 163, 3) := by decide +kernel
theorem dX7_doSequence_467 : decode cX7_doSequence 467 = .ok (.aload_n 0, 1) := by decide +kernel
theorem dX7_doSequence_468 : decode cX7_doSequence 468 = .ok (.getfield 12, 3) := by decide +kernel
theorem dX7_doSequence_471 : decode cX7_doSequence 471 = .ok (.iload 4, 2) := by decide +kernel
theorem dX7_doSequence_473 : decode cX7_doSequence 473 = .ok (.invokevirtual 263, 3) := by decide +kernel
theorem dX7_doSequence_476 : decode cX7_doSequence 476 = .ok (.goto 151, 3) := by decide +kernel
theorem dX7_doSequence_479 : decode cX7_doSequence 479 = .ok (.aload_n 0, 1) := by decide +kernel
theorem dX7_doSequence_480 : decode cX7_doSequence 480 = .ok (.getfield 12, 3) := by decide +kernel
theorem dX7_doSequence_483 : decode cX7_doSequence 483 = .ok (.iload 4, 2) := by decide +kernel
theorem dX7_doSequence_485 : decode cX7_doSequence 485 = .ok (.invokevirtual 266, 3) := by decide +kernel
theorem dX7_doSequence_488 : decode cX7_doSequence 488 = .ok (.goto 139, 3) := by decide +kernel
theorem dX7_doSequence_491 : decode cX7_doSequence 491 = .ok (.aload_n 0, 1) := by decide +kernel
theorem dX7_doSequence_492 : decode cX7_doSequence 492 = .ok (.getfield 12, 3) := by decide +kernel
theorem dX7_doSequence_495 : decode cX7_doSequence 495 = .ok (.iload 4, 2) := by decide +kernel
theorem dX7_doSequence_497 : decode cX7_doSequence 497 = .ok (.invokevirtual 269, 3) := by decide +kernel
theorem dX7_doSequence_500 : decode cX7_doSequence 500 = .ok (.goto 127, 3) := by decide +kernel
theorem dX7_doSequence_503 : decode cX7_doSequence 503 = .ok (.aload_n 0, 1) := by decide +kernel
theorem dX7_doSequence_504 : decode cX7_doSequence 504 = .ok (.getfield 12, 3) := by decide +kernel
theorem dX7_doSequence_507 : decode cX7_doSequence 507 = .ok (.iload 4, 2) := by decide +kernel
theorem dX7_doSequence_509 : decode cX7_doSequence 509 = .ok (.invokevirtual 272, 3) := by decide +kernel
theorem dX7_doSequence_512 : decode cX7_doSequence 512 = .ok (.goto 115, 3) := by decide +kernel
theorem dX7_doSequence_515 : decode cX7_doSequence 515 = .ok (.aload_n 0, 1) := by decide +kernel
theorem dX7_doSequence_516 : decode cX7_doSequence 516 = .ok (.getfield 12, 3) := by decide +kernel
theorem dX7_doSequence_519 : decode cX7_doSequence 519 = .ok (.iload 4, 2) := by decide +kernel
theorem dX7_doSequence_521 : decode cX7_doSequence 521 = .ok (.invokevirtual 275, 3) := by decide +kernel
theorem dX7_doSequence_524 : decode cX7_doSequence 524 = .ok (.goto 103, 3) := by decide +kernel
theorem dX7_doSequence_527 : decode cX7_doSequence 527 = .ok (.aload_n 0, 1) := by decide +kernel
theorem dX7_doSequence_528 : decode cX7_doSequence 528 = .ok (.getfield 12, 3) := by decide +kernel
theorem dX7_doSequence_531 : decode cX7_doSequence 531 = .ok (.iload 4, 2) := by decide +kernel
theorem dX7_doSequence_533 : decode cX7_doSequence 533 = .ok (.invokevirtual 278, 3) := by decide +kernel
theorem dX7_doSequence_536 : decode cX7_doSequence 536 = .ok (.goto 91, 3) := by decide +kernel
theorem dX7_doSequence_539 : decode cX7_doSequence 539 = .ok (.aload_n 0, 1) := by decide +kernel
theorem dX7_doSequence_540 : decode cX7_doSequence 540 = .ok (.invokevirtual 281, 3) := by decide +kernel
theorem dX7_doSequence_543 : decode cX7_doSequence 543 = .ok (.goto 84, 3) := by decide +kernel
theorem dX7_doSequence_546 : decode cX7_doSequence 546 = .ok (.aload_n 0, 1) := by decide +kernel
theorem dX7_doSequence_547 : decode cX7_doSequence 547 = .ok (.getfield 12, 3) := by decide +kernel
theorem dX7_doSequence_550 : decode cX7_doSequence 550 = .ok (.iload 4, 2) := by decide +kernel
theorem dX7_doSequence_552 : decode cX7_doSequence 552 = .ok (.iconst 1, 1) := by decide +kernel
theorem dX7_doSequence_553 : decode cX7_doSequence 553 = .ok (.isub, 1) := by decide +kernel
theorem dX7_doSequence_554 : decode cX7_doSequence 554 = .ok (.iload_n 3, 1) := by decide +kernel
theorem dX7_doSequence_555 : decode cX7_doSequence 555 = .ok (.ifCond .ne 8, 3) := by decide +kernel
theorem dX7_doSequence_558 : decode cX7_doSequence 558 = .ok (.bipush 7, 2) := by decide +kernel
theorem dX7_doSequence_560 : decode cX7_doSequence 560 = .ok (.goto 6, 3) := by decide +kernel
theorem dX7_doSequence_563 : decode cX7_doSequence 563 = .ok (.iload_n 3, 1) := by decide +kernel
theorem dX7_doSequence_564 : decode cX7_doSequence 564 = .ok (.iconst 1, 1) := by decide +kernel
theorem dX7_doSequence_565 : decode cX7_doSequence 565 = .ok (.isub, 1) := by decide +kernel
theorem dX7_doSequence_566 : decode cX7_doSequence 566 = .ok (.invokevirtual 284, 3) := by decide +kernel
theorem dX7_doSequence_569 : decode cX7_doSequence 569 = .ok (.goto 58, 3) := by decide +kernel
theorem dX7_doSequence_572 : decode cX7_doSequence 572 = .ok (.aload_n 0, 1) := by decide +kernel
theorem dX7_doSequence_573 : decode cX7_doSequence 573 = .ok (.getfield 12, 3) := by decide +kernel
theorem dX7_doSequence_576 : decode cX7_doSequence 576 = .ok (.invokevirtual 199, 3) := by decide +kernel
theorem dX7_doSequence_579 : decode cX7_doSequence 579 = .ok (.goto 48, 3) := by decide +kernel
theorem dX7_doSequence_582 : decode cX7_doSequence 582 = .ok (.aload_n 0, 1) := by decide +kernel
theorem dX7_doSequence_583 : decode cX7_doSequence 583 = .ok (.getfield 12, 3) := by decide +kernel
theorem dX7_doSequence_586 : decode cX7_doSequence 586 = .ok (.invokevirtual 202, 3) := by decide +kernel
theorem dX7_doSequence_589 : decode cX7_doSequence 589 = .ok (.goto 38, 3) := by decide +kernel
theorem dX7_doSequence_592 : decode cX7_doSequence 592 = .ok (.aload_n 0, 1) := by decide +kernel
theorem dX7_doSequence_593 : decode cX7_doSequence 593 = .ok (.getfield 12, 3) := by decide +kernel
theorem dX7_doSequence_596 : decode cX7_doSequence 596 = .ok (.iload_n 2, 1) := by decide +kernel
theorem dX7_doSequence_597 : decode cX7_doSequence 597 = .ok (.invokevirtual 287, 3) := by decide +kernel
theorem dX7_doSequence_600 : decode cX7_doSequence 600 = .ok (.goto 27, 3) := by decide +kernel
theorem dX7_doSequence_603 : decode cX7_doSequence 603 = .ok (.aload_n 0, 1) := by decide +kernel
theorem dX7_doSequence_604 : decode cX7_doSequence 604 = .ok (.iconst 1, 1) := by decide +kernel
theorem dX7_doSequence_605 : decode cX7_doSequence 605 = .ok (.invokevirtual 290, 3) := by decide +kernel
theorem dX7_doSequence_608 : decode cX7_doSequence 608 = .ok (.goto 19, 3) := by decide +kernel
theorem dX7_doSequence_611 : decode cX7_doSequence 611 = .ok (.aload_n 0, 1) := by decide +kernel
theorem dX7_doSequence_612 : decode cX7_doSequence 612 = .ok (.iconst 0, 1) := by decide +kernel
theorem dX7_doSequence_613 : decode cX7_doSequence 613 = .ok (.invokevirtual 290, 3) := by decide +kernel
theorem dX7_doSequence_616 : decode cX7_doSequence 616 = .ok (.goto 11, 3) := by decide +kernel
theorem dX7_doSequence_619 : decode cX7_doSequence 619 = .ok (.aload_n 0, 1) := by decide +kernel
theorem dX7_doSequence_620 : decode cX7_doSequence 620 = .ok (.iload_n 2, 1) := by decide +kernel
theorem dX7_doSequence_621 : decode cX7_doSequence 621 = .ok (.invokevirtual 294, 3) := by decide +kernel
theorem dX7_doSequence_624 : decode cX7_doSequence 624 = .ok (.goto 3, 3) := by decide +kernel
theorem dX7_doSequence_627 : decode cX7_doSequence 627 = .ok (.return_, 1) := by decide +kernel
theorem dX7_doPrivate_0 : decode cX7_doPrivate 0 = .ok (.iload_n 1, 1) := by decide +kernel
theorem dX7_doPrivate_1 : decode cX7_doPrivate 1 = .ok (.bipush 104, 2) := by decide +kernel
theorem dX7_doPrivate_3 : decode cX7_doPrivate 3 = .ok (.if_icmp .eq 10, 3) := by decide +kernel
theorem dX7_doPrivate_6 : decode cX7_doPrivate 6 = .ok (.iload_n 1, 1) := by decide +kernel
theorem dX7_doPrivate_7 : decode cX7_doPrivate 7 = .ok (.bipush 108, 2) := by decide +kernel
theorem dX7_doPrivate_9 : decode cX7_doPrivate 9 = .ok (.if_icmp .eq 4, 3) := by decide +kernel
theorem dX7_doPrivate_12 : decode cX7_doPrivate 12 = .ok (.return_, 1) := by decide +kernel
theorem dX7_doPrivate_13 : decode cX7_doPrivate 13 = .ok (.iconst 0, 1) := by decide +kernel
theorem dX7_doPrivate_14 : decode cX7_doPrivate 14 = .ok (.istore_n 2, 1) := by decide +kernel
theorem dX7_doPrivate_15 : decode cX7_doPrivate 15 = .ok (.iload_n 2, 1) := by decide +kernel
theorem dX7_doPrivate_16 : decode cX7_doPrivate 16 = .ok (.aload_n 0, 1) := by decide +kernel
theorem dX7_doPrivate_17 : decode cX7_doPrivate 17 = .ok (.getfield 26, 3) := by decide +kernel
theorem dX7_doPrivate_20 : decode cX7_doPrivate 20 = .ok (.invokevirtual 297, 3) := by decide +kernel
theorem dX7_doPrivate_23 : decode cX7_doPrivate 23 = .ok (.if_icmp .ge 35, 3) := by decide +kernel
theorem dX7_doPrivate_26 : decode cX7_doPrivate 26 = .ok (.aload_n 0, 1) := by decide +kernel
theorem dX7_doPrivate_27 : decode cX7_doPrivate 27 = .ok (.getfield 12, 3) := by decide +kernel
theorem dX7_doPrivate_30 : decode cX7_doPrivate 30 = .ok (.aload_n 0, 1) := by decide +kernel
theorem dX7_doPrivate_31 : decode cX7_doPrivate 31 = .ok (.getfield 26, 3) := by decide +kernel
theorem dX7_doPrivate_34 : decode cX7_doPrivate 34 = .ok (.iload_n 2, 1) := by decide +kernel
theorem dX7_doPrivate_35 : decode cX7_doPrivate 35 = .ok (.invokevirtual 232, 3) := by decide +kernel
theorem dX7_doPrivate_38 : decode cX7_doPrivate 38 = .ok (.iload_n 1, 1) := by decide +kernel
theorem dX7_doPrivate_39 : decode cX7_doPrivate 39 = .ok (.bipush 104, 2) := by decide +kernel
theorem dX7_doPrivate_41 : decode cX7_doPrivate 41 = .ok (.if_icmp .ne 7, 3) := by decide +kernel
theorem dX7_doPrivate_44 : decode cX7_doPrivate 44 = .ok (.iconst 1, 1) := by decide +kernel
theorem dX7_doPrivate_45 : decode cX7_doPrivate 45 = .ok (.goto 4, 3) := by decide +kernel
theorem dX7_doPrivate_48 : decode cX7_doPrivate 48 = .ok (.iconst 0, 1) := by decide +kernel
theorem dX7_doPrivate_49 : decode cX7_doPrivate 49 = .ok (.invokevirtual 300, 3) := by decide +kernel
theorem dX7_doPrivate_52 : decode cX7_doPrivate 52 = .ok (.iinc 2 1, 3) := by decide +kernel
theorem dX7_doPrivate_55 : decode cX7_doPrivate 55 = .ok (.goto (-40), 3) := by decide +kernel
theorem dX7_doPrivate_58 : decode cX7_doPrivate 58 = .ok (.return_, 1) := by decide +kernel
theorem dX7_paintAll_0 : decode cX7_paintAll 0 = .ok (.iconst 1, 1) := by decide +kernel
theorem dX7_paintAll_1 : decode cX7_paintAll 1 = .ok (.aload_n 0, 1) := by decide +kernel
theorem dX7_paintAll_2 : decode cX7_paintAll 2 = .ok (.getfield 26, 3) := by decide +kernel
theorem dX7_paintAll_5 : decode cX7_paintAll 5 = .ok (.invokevirtual 297, 3) := by decide +kernel
theorem dX7_paintAll_8 : decode cX7_paintAll 8 = .ok (.invokestatic 304, 3) := by decide +kernel
theorem dX7_paintAll_11 : decode cX7_paintAll 11 = .ok (.istore_n 1, 1) := by decide +kernel
theorem dX7_paintAll_12 : decode cX7_paintAll 12 = .ok (.iconst 0, 1) := by decide +kernel
theorem dX7_paintAll_13 : decode cX7_paintAll 13 = .ok (.istore_n 2, 1) := by decide +kernel
theorem dX7_paintAll_14 : decode cX7_paintAll 14 = .ok (.iload_n 2, 1) := by decide +kernel
theorem dX7_paintAll_15 : decode cX7_paintAll 15 = .ok (.iload_n 1, 1) := by decide +kernel
theorem dX7_paintAll_16 : decode cX7_paintAll 16 = .ok (.if_icmp .ge 27, 3) := by decide +kernel
theorem dX7_paintAll_19 : decode cX7_paintAll 19 = .ok (.aload_n 0, 1) := by decide +kernel
theorem dX7_paintAll_20 : decode cX7_paintAll 20 = .ok (.getfield 12, 3) := by decide +kernel
theorem dX7_paintAll_23 : decode cX7_paintAll 23 = .ok (.getfield 58, 3) := by decide +kernel
theorem dX7_paintAll_26 : decode cX7_paintAll 26 = .ok (.aload_n 0, 1) := by decide +kernel
theorem dX7_paintAll_27 : decode cX7_paintAll 27 = .ok (.getfield 26, 3) := by decide +kernel
theorem dX7_paintAll_30 : decode cX7_paintAll 30 = .ok (.iload_n 2, 1) := by decide +kernel
theorem dX7_paintAll_31 : decode cX7_paintAll 31 = .ok (.invokevirtual 232, 3) := by decide +kernel
theorem dX7_paintAll_34 : decode cX7_paintAll 34 = .ok (.invokevirtual 309, 3) := by decide +kernel
theorem dX7_paintAll_37 : decode cX7_paintAll 37 = .ok (.iinc 2 1, 3) := by decide +kernel
theorem dX7_paintAll_40 : decode cX7_paintAll 40 = .ok (.goto (-26), 3) := by decide +kernel
theorem dX7_paintAll_43 : decode cX7_paintAll 43 = .ok (.return_, 1) := by decide +kernel
theorem dX7_switchInsert_0 : decode cX7_switchInsert 0 = .ok (.iconst 0, 1) := by decide +kernel
theorem dX7_switchInsert_1 : decode cX7_switchInsert 1 = .ok (.istore_n 2, 1) := by decide +kernel
theorem dX7_switchInsert_2 : decode cX7_switchInsert 2 = .ok (.iload_n 2, 1) := by decide +kernel
theorem dX7_switchInsert_3 : decode cX7_switchInsert 3 = .ok (.aload_n 0, 1) := by decide +kernel
theorem dX7_switchInsert_4 : decode cX7_switchInsert 4 = .ok (.getfield 26, 3) := by decide +kernel
theorem dX7_switchInsert_7 : decode cX7_switchInsert 7 = .ok (.invokevirtual 297, 3) := by decide +kernel
theorem dX7_switchInsert_10 : decode cX7_switchInsert 10 = .ok (.if_icmp .ge 29, 3) := by decide +kernel
theorem dX7_switchInsert_13 : decode cX7_switchInsert 13 = .ok (.aload_n 0, 1) := by decide +kernel
theorem dX7_switchInsert_14 : decode cX7_switchInsert 14 = .ok (.getfield 26, 3) := by decide +kernel
theorem dX7_switchInsert_17 : decode cX7_switchInsert 17 = .ok (.iload_n 2, 1) := by decide +kernel
theorem dX7_switchInsert_18 : decode cX7_switchInsert 18 = .ok (.invokevirtual 232, 3) := by decide +kernel
theorem dX7_switchInsert_21 : decode cX7_switchInsert 21 = .ok (.iconst 4, 1) := by decide +kernel
theorem dX7_switchInsert_22 : decode cX7_switchInsert 22 = .ok (.if_icmp .ne 11, 3) := by decide +kernel
theorem dX7_switchInsert_25 : decode cX7_switchInsert 25 = .ok (.aload_n 0, 1) := by decide +kernel
theorem dX7_switchInsert_26 : decode cX7_switchInsert 26 = .ok (.getfield 12, 3) := by decide +kernel
theorem dX7_switchInsert_29 : decode cX7_switchInsert 29 = .ok (.iload_n 1, 1) := by decide +kernel
theorem dX7_switchInsert_30 : decode cX7_switchInsert 30 = .ok (.putfield 77, 3) := by decide +kernel
theorem dX7_switchInsert_33 : decode cX7_switchInsert 33 = .ok (.iinc 2 1, 3) := by decide +kernel
end
section
theorem dX7_switchInsert_36 : decode cX7_switchInsert 36 = .ok (.goto (-34), 3) := by decide +kernel
theorem dX7_switchInsert_39 : decode cX7_switchInsert 39 = .ok (.return_, 1) := by decide +kernel
theorem dX7_answer_0 : decode cX7_answer 0 = .ok (.iload_n 1, 1) := by decide +kernel
theorem dX7_answer_1 : decode cX7_answer 1 = .ok (.iconst 5, 1) := by decide +kernel
theorem dX7_answer_2 : decode cX7_answer 2 = .ok (.if_icmp .ne 13, 3) := by decide +kernel
theorem dX7_answer_5 : decode cX7_answer 5 = .ok (.aload_n 0, 1) := by decide +kernel
theorem dX7_answer_6 : decode cX7_answer 6 = .ok (.getfield 43, 3) := by decide +kernel
theorem dX7_answer_9 : decode cX7_answer 9 = .ok (.invokevirtual 312, 3) := by decide +kernel
theorem dX7_answer_12 : decode cX7_answer 12 = .ok (.goto 35, 3) := by decide +kernel
theorem dX7_answer_15 : decode cX7_answer 15 = .ok (.iload_n 1, 1) := by decide +kernel
theorem dX7_answer_16 : decode cX7_answer 16 = .ok (.bipush 6, 2) := by decide +kernel
theorem dX7_answer_18 : decode cX7_answer 18 = .ok (.if_icmp .ne 29, 3) := by decide +kernel
theorem dX7_answer_21 : decode cX7_answer 21 = .ok (.aload_n 0, 1) := by decide +kernel
theorem dX7_answer_22 : decode cX7_answer 22 = .ok (.getfield 43, 3) := by decide +kernel
theorem dX7_answer_25 : decode cX7_answer 25 = .ok (.aload_n 0, 1) := by decide +kernel
theorem dX7_answer_26 : decode cX7_answer 26 = .ok (.getfield 12, 3) := by decide +kernel
theorem dX7_answer_29 : decode cX7_answer 29 = .ok (.invokevirtual 315, 3) := by decide +kernel
theorem dX7_answer_32 : decode cX7_answer 32 = .ok (.aload_n 0, 1) := by decide +kernel
theorem dX7_answer_33 : decode cX7_answer 33 = .ok (.getfield 12, 3) := by decide +kernel
theorem dX7_answer_36 : decode cX7_answer 36 = .ok (.getfield 58, 3) := by decide +kernel
theorem dX7_answer_39 : decode cX7_answer 39 = .ok (.getfield 67, 3) := by decide +kernel
theorem dX7_answer_42 : decode cX7_answer 42 = .ok (.iconst 1, 1) := by decide +kernel
theorem dX7_answer_43 : decode cX7_answer 43 = .ok (.iadd, 1) := by decide +kernel
theorem dX7_answer_44 : decode cX7_answer 44 = .ok (.invokevirtual 318, 3) := by decide +kernel
theorem dX7_answer_47 : decode cX7_answer 47 = .ok (.return_, 1) := by decide +kernel
end
section
theorem dX8_init_0 : decode cX8_init 0 = .ok (.aload_n 0, 1) := by decide +kernel
theorem dX8_init_1 : decode cX8_init 1 = .ok (.invokespecial 1, 3) := by decide +kernel
theorem dX8_init_4 : decode cX8_init 4 = .ok (.aload_n 0, 1) := by decide +kernel
theorem dX8_init_5 : decode cX8_init 5 = .ok (.sipush 192, 3) := by decide +kernel
theorem dX8_init_8 : decode cX8_init 8 = .ok (.newarray .int, 2) := by decide +kernel
theorem dX8_init_10 : decode cX8_init 10 = .ok (.putfield 7, 3) := by decide +kernel
theorem dX8_init_13 : decode cX8_init 13 = .ok (.aload_n 0, 1) := by decide +kernel
theorem dX8_init_14 : decode cX8_init 14 = .ok (.sipush 192, 3) := by decide +kernel
theorem dX8_init_17 : decode cX8_init 17 = .ok (.newarray .int, 2) := by decide +kernel
theorem dX8_init_19 : decode cX8_init 19 = .ok (.putfield 13, 3) := by decide +kernel
theorem dX8_init_22 : decode cX8_init 22 = .ok (.aload_n 0, 1) := by decide +kernel
theorem dX8_init_23 : decode cX8_init 23 = .ok (.bipush 96, 2) := by decide +kernel
theorem dX8_init_25 : decode cX8_init 25 = .ok (.newarray .int, 2) := by decide +kernel
theorem dX8_init_27 : decode cX8_init 27 = .ok (.putfield 16, 3) := by decide +kernel
theorem dX8_init_30 : decode cX8_init 30 = .ok (.aload_n 0, 1) := by decide +kernel
theorem dX8_init_31 : decode cX8_init 31 = .ok (.bipush 96, 2) := by decide +kernel
theorem dX8_init_33 : decode cX8_init 33 = .ok (.newarray .int, 2) := by decide +kernel
theorem dX8_init_35 : decode cX8_init 35 = .ok (.putfield 19, 3) := by decide +kernel
theorem dX8_init_38 : decode cX8_init 38 = .ok (.aload_n 0, 1) := by decide +kernel
theorem dX8_init_39 : decode cX8_init 39 = .ok (.bipush 12, 2) := by decide +kernel
theorem dX8_init_41 : decode cX8_init 41 = .ok (.newarray .boolean, 2) := by decide +kernel
theorem dX8_init_43 : decode cX8_init 43 = .ok (.putfield 22, 3) := by decide +kernel
theorem dX8_init_46 : decode cX8_init 46 = .ok (.aload_n 0, 1) := by decide +kernel
theorem dX8_init_47 : decode cX8_init 47 = .ok (.bipush 64, 2) := by decide +kernel
theorem dX8_init_49 : decode cX8_init 49 = .ok (.newarray .int, 2) := by decide +kernel
theorem dX8_init_51 : decode cX8_init 51 = .ok (.putfield 26, 3) := by decide +kernel
theorem dX8_init_54 : decode cX8_init 54 = .ok (.aload_n 0, 1) := by decide +kernel
theorem dX8_init_55 : decode cX8_init 55 = .ok (.bipush 16, 2) := by decide +kernel
theorem dX8_init_57 : decode cX8_init 57 = .ok (.newarray .int, 2) := by decide +kernel
theorem dX8_init_59 : decode cX8_init 59 = .ok (.putfield 29, 3) := by decide +kernel
theorem dX8_init_62 : decode cX8_init 62 = .ok (.aload_n 0, 1) := by decide +kernel
theorem dX8_init_63 : decode cX8_init 63 = .ok (.bipush 16, 2) := by decide +kernel
theorem dX8_init_65 : decode cX8_init 65 = .ok (.newarray .int, 2) := by decide +kernel
theorem dX8_init_67 : decode cX8_init 67 = .ok (.putfield 32, 3) := by decide +kernel
theorem dX8_init_70 : decode cX8_init 70 = .ok (.aload_n 0, 1) := by decide +kernel
theorem dX8_init_71 : decode cX8_init 71 = .ok (.bipush 6, 2) := by decide +kernel
theorem dX8_init_73 : decode cX8_init 73 = .ok (.newarray .int, 2) := by decide +kernel
theorem dX8_init_75 : decode cX8_init 75 = .ok (.putfield 35, 3) := by decide +kernel
theorem dX8_init_78 : decode cX8_init 78 = .ok (.aload_n 0, 1) := by decide +kernel
theorem dX8_init_79 : decode cX8_init 79 = .ok (.invokevirtual 38, 3) := by decide +kernel
theorem dX8_init_82 : decode cX8_init 82 = .ok (.return_, 1) := by decide +kernel
theorem dX8_thrown_0 : decode cX8_thrown 0 = .ok (.aload_n 0, 1) := by decide +kernel
theorem dX8_thrown_1 : decode cX8_thrown 1 = .ok (.getfield 41, 3) := by decide +kernel
theorem dX8_thrown_4 : decode cX8_thrown 4 = .ok (.ireturn, 1) := by decide +kernel
theorem dX8_first_0 : decode cX8_first 0 = .ok (.iconst 0, 1) := by decide +kernel
theorem dX8_first_1 : decode cX8_first 1 = .ok (.istore_n 1, 1) := by decide +kernel
theorem dX8_first_2 : decode cX8_first 2 = .ok (.iload_n 1, 1) := by decide +kernel
theorem dX8_first_3 : decode cX8_first 3 = .ok (.sipush 192, 3) := by decide +kernel
theorem dX8_first_6 : decode cX8_first 6 = .ok (.if_icmp .ge 14, 3) := by decide +kernel
theorem dX8_first_9 : decode cX8_first 9 = .ok (.aload_n 0, 1) := by decide +kernel
theorem dX8_first_10 : decode cX8_first 10 = .ok (.iload_n 1, 1) := by decide +kernel
theorem dX8_first_11 : decode cX8_first 11 = .ok (.invokevirtual 45, 3) := by decide +kernel
theorem dX8_first_14 : decode cX8_first 14 = .ok (.iinc 1 1, 3) := by decide +kernel
theorem dX8_first_17 : decode cX8_first 17 = .ok (.goto (-15), 3) := by decide +kernel
theorem dX8_first_20 : decode cX8_first 20 = .ok (.aload_n 0, 1) := by decide +kernel
theorem dX8_first_21 : decode cX8_first 21 = .ok (.iconst 0, 1) := by decide +kernel
theorem dX8_first_22 : decode cX8_first 22 = .ok (.putfield 49, 3) := by decide +kernel
theorem dX8_first_25 : decode cX8_first 25 = .ok (.aload_n 0, 1) := by decide +kernel
theorem dX8_first_26 : decode cX8_first 26 = .ok (.iconst 0, 1) := by decide +kernel
theorem dX8_first_27 : decode cX8_first 27 = .ok (.iconst 0, 1) := by decide +kernel
theorem dX8_first_28 : decode cX8_first 28 = .ok (.invokevirtual 52, 3) := by decide +kernel
theorem dX8_first_31 : decode cX8_first 31 = .ok (.aload_n 0, 1) := by decide +kernel
theorem dX8_first_32 : decode cX8_first 32 = .ok (.iconst 0, 1) := by decide +kernel
theorem dX8_first_33 : decode cX8_first 33 = .ok (.invokevirtual 56, 3) := by decide +kernel
theorem dX8_first_36 : decode cX8_first 36 = .ok (.aload_n 0, 1) := by decide +kernel
theorem dX8_first_37 : decode cX8_first 37 = .ok (.iconst 0, 1) := by decide +kernel
theorem dX8_first_38 : decode cX8_first 38 = .ok (.putfield 59, 3) := by decide +kernel
theorem dX8_first_41 : decode cX8_first 41 = .ok (.aload_n 0, 1) := by decide +kernel
theorem dX8_first_42 : decode cX8_first 42 = .ok (.bipush 7, 2) := by decide +kernel
theorem dX8_first_44 : decode cX8_first 44 = .ok (.putfield 62, 3) := by decide +kernel
theorem dX8_first_47 : decode cX8_first 47 = .ok (.iconst 0, 1) := by decide +kernel
theorem dX8_first_48 : decode cX8_first 48 = .ok (.istore_n 1, 1) := by decide +kernel
theorem dX8_first_49 : decode cX8_first 49 = .ok (.iload_n 1, 1) := by decide +kernel
theorem dX8_first_50 : decode cX8_first 50 = .ok (.bipush 12, 2) := by decide +kernel
theorem dX8_first_52 : decode cX8_first 52 = .ok (.if_icmp .ge 31, 3) := by decide +kernel
theorem dX8_first_55 : decode cX8_first 55 = .ok (.aload_n 0, 1) := by decide +kernel
theorem dX8_first_56 : decode cX8_first 56 = .ok (.getfield 22, 3) := by decide +kernel
theorem dX8_first_59 : decode cX8_first 59 = .ok (.iload_n 1, 1) := by decide +kernel
theorem dX8_first_60 : decode cX8_first 60 = .ok (.iload_n 1, 1) := by decide +kernel
theorem dX8_first_61 : decode cX8_first 61 = .ok (.iconst 4, 1) := by decide +kernel
theorem dX8_first_62 : decode cX8_first 62 = .ok (.if_icmp .eq 9, 3) := by decide +kernel
theorem dX8_first_65 : decode cX8_first 65 = .ok (.iload_n 1, 1) := by decide +kernel
theorem dX8_first_66 : decode cX8_first 66 = .ok (.bipush 8, 2) := by decide +kernel
theorem dX8_first_68 : decode cX8_first 68 = .ok (.if_icmp .ne 7, 3) := by decide +kernel
theorem dX8_first_71 : decode cX8_first 71 = .ok (.iconst 1, 1) := by decide +kernel
theorem dX8_first_72 : decode cX8_first 72 = .ok (.goto 4, 3) := by decide +kernel
theorem dX8_first_75 : decode cX8_first 75 = .ok (.iconst 0, 1) := by decide +kernel
theorem dX8_first_76 : decode cX8_first 76 = .ok (.bastore, 1) := by decide +kernel
theorem dX8_first_77 : decode cX8_first 77 = .ok (.iinc 1 1, 3) := by decide +kernel
theorem dX8_first_80 : decode cX8_first 80 = .ok (.goto (-31), 3) := by decide +kernel
theorem dX8_first_83 : decode cX8_first 83 = .ok (.aload_n 0, 1) := by decide +kernel
theorem dX8_first_84 : decode cX8_first 84 = .ok (.iconst 0, 1) := by decide +kernel
theorem dX8_first_85 : decode cX8_first 85 = .ok (.putfield 65, 3) := by decide +kernel
theorem dX8_first_88 : decode cX8_first 88 = .ok (.aload_n 0, 1) := by decide +kernel
theorem dX8_first_89 : decode cX8_first 89 = .ok (.iconst 0, 1) := by decide +kernel
theorem dX8_first_90 : decode cX8_first 90 = .ok (.putfield 69, 3) := by decide +kernel
theorem dX8_first_93 : decode cX8_first 93 = .ok (.aload_n 0, 1) := by decide +kernel
theorem dX8_first_94 : decode cX8_first 94 = .ok (.iconst 1, 1) := by decide +kernel
theorem dX8_first_95 : decode cX8_first 95 = .ok (.putfield 72, 3) := by decide +kernel
theorem dX8_first_98 : decode cX8_first 98 = .ok (.aload_n 0, 1) := by decide +kernel
theorem dX8_first_99 : decode cX8_first 99 = .ok (.invokevirtual 75, 3) := by decide +kernel
theorem dX8_first_102 : decode cX8_first 102 = .ok (.aload_n 0, 1) := by decide +kernel
theorem dX8_first_103 : decode cX8_first 103 = .ok (.iconst (-1), 1) := by decide +kernel
theorem dX8_first_104 : decode cX8_first 104 = .ok (.putfield 78, 3) := by decide +kernel
theorem dX8_first_107 : decode cX8_first 107 = .ok (.aload_n 0, 1) := by decide +kernel
theorem dX8_first_108 : decode cX8_first 108 = .ok (.iconst 0, 1) := by decide +kernel
theorem dX8_first_109 : decode cX8_first 109 = .ok (.putfield 81, 3) := by decide +kernel
theorem dX8_first_112 : decode cX8_first 112 = .ok (.aload_n 0, 1) := by decide +kernel
theorem dX8_first_113 : decode cX8_first 113 = .ok (.iconst 0, 1) := by decide +kernel
theorem dX8_first_114 : decode cX8_first 114 = .ok (.putfield 84, 3) := by decide +kernel
theorem dX8_first_117 : decode cX8_first 117 = .ok (.aload_n 0, 1) := by decide +kernel
theorem dX8_first_118 : decode cX8_first 118 = .ok (.iconst 0, 1) := by decide +kernel
theorem dX8_first_119 : decode cX8_first 119 = .ok (.putfield 87, 3) := by decide +kernel
theorem dX8_first_122 : decode cX8_first 122 = .ok (.aload_n 0, 1) := by decide +kernel
theorem dX8_first_123 : decode cX8_first 123 = .ok (.iconst 0, 1) := by decide +kernel
theorem dX8_first_124 : decode cX8_first 124 = .ok (.putfield 90, 3) := by decide +kernel
theorem dX8_first_127 : decode cX8_first 127 = .ok (.aload_n 0, 1) := by decide +kernel
theorem dX8_first_128 : decode cX8_first 128 = .ok (.iconst 0, 1) := by decide +kernel
theorem dX8_first_129 : decode cX8_first 129 = .ok (.putfield 93, 3) := by decide +kernel
theorem dX8_first_132 : decode cX8_first 132 = .ok (.return_, 1) := by decide +kernel
theorem dX8_blank_0 : decode cX8_blank 0 = .ok (.aload_n 0, 1) := by decide +kernel
theorem dX8_blank_1 : decode cX8_blank 1 = .ok (.getfield 7, 3) := by decide +kernel
theorem dX8_blank_4 : decode cX8_blank 4 = .ok (.iload_n 1, 1) := by decide +kernel
theorem dX8_blank_5 : decode cX8_blank 5 = .ok (.bipush 32, 2) := by decide +kernel
theorem dX8_blank_7 : decode cX8_blank 7 = .ok (.iastore, 1) := by decide +kernel
theorem dX8_blank_8 : decode cX8_blank 8 = .ok (.aload_n 0, 1) := by decide +kernel
theorem dX8_blank_9 : decode cX8_blank 9 = .ok (.getfield 13, 3) := by decide +kernel
theorem dX8_blank_12 : decode cX8_blank 12 = .ok (.iload_n 1, 1) := by decide +kernel
theorem dX8_blank_13 : decode cX8_blank 13 = .ok (.iconst 0, 1) := by decide +kernel
theorem dX8_blank_14 : decode cX8_blank 14 = .ok (.iastore, 1) := by decide +kernel
theorem dX8_blank_15 : decode cX8_blank 15 = .ok (.return_, 1) := by decide +kernel
theorem dX8_place_0 : decode cX8_place 0 = .ok (.aload_n 0, 1) := by decide +kernel
theorem dX8_place_1 : decode cX8_place 1 = .ok (.iload_n 1, 1) := by decide +kernel
theorem dX8_place_2 : decode cX8_place 2 = .ok (.putfield 96, 3) := by decide +kernel
theorem dX8_place_5 : decode cX8_place 5 = .ok (.aload_n 0, 1) := by decide +kernel
theorem dX8_place_6 : decode cX8_place 6 = .ok (.iload_n 2, 1) := by decide +kernel
theorem dX8_place_7 : decode cX8_place 7 = .ok (.putfield 99, 3) := by decide +kernel
theorem dX8_place_10 : decode cX8_place 10 = .ok (.aload_n 0, 1) := by decide +kernel
theorem dX8_place_11 : decode cX8_place 11 = .ok (.iconst 0, 1) := by decide +kernel
theorem dX8_place_12 : decode cX8_place 12 = .ok (.putfield 102, 3) := by decide +kernel
theorem dX8_place_15 : decode cX8_place 15 = .ok (.return_, 1) := by decide +kernel
theorem dX8_penNow_0 : decode cX8_penNow 0 = .ok (.aload_n 0, 1) := by decide +kernel
theorem dX8_penNow_1 : decode cX8_penNow 1 = .ok (.getfield 105, 3) := by decide +kernel
theorem dX8_penNow_4 : decode cX8_penNow 4 = .ok (.iconst 2, 1) := by decide +kernel
theorem dX8_penNow_5 : decode cX8_penNow 5 = .ok (.aload_n 0, 1) := by decide +kernel
theorem dX8_penNow_6 : decode cX8_penNow 6 = .ok (.getfield 108, 3) := by decide +kernel
theorem dX8_penNow_9 : decode cX8_penNow 9 = .ok (.imul, 1) := by decide +kernel
theorem dX8_penNow_10 : decode cX8_penNow 10 = .ok (.iadd, 1) := by decide +kernel
theorem dX8_penNow_11 : decode cX8_penNow 11 = .ok (.iconst 4, 1) := by decide +kernel
theorem dX8_penNow_12 : decode cX8_penNow 12 = .ok (.aload_n 0, 1) := by decide +kernel
theorem dX8_penNow_13 : decode cX8_penNow 13 = .ok (.getfield 111, 3) := by decide +kernel
theorem dX8_penNow_16 : decode cX8_penNow 16 = .ok (.imul, 1) := by decide +kernel
theorem dX8_penNow_17 : decode cX8_penNow 17 = .ok (.iadd, 1) := by decide +kernel
theorem dX8_penNow_18 : decode cX8_penNow 18 = .ok (.bipush 8, 2) := by decide +kernel
theorem dX8_penNow_20 : decode cX8_penNow 20 = .ok (.aload_n 0, 1) := by decide +kernel
theorem dX8_penNow_21 : decode cX8_penNow 21 = .ok (.getfield 114, 3) := by decide +kernel
theorem dX8_penNow_24 : decode cX8_penNow 24 = .ok (.imul, 1) := by decide +kernel
theorem dX8_penNow_25 : decode cX8_penNow 25 = .ok (.iadd, 1) := by decide +kernel
theorem dX8_penNow_26 : decode cX8_penNow 26 = .ok (.sipush 128, 3) := by decide +kernel
theorem dX8_penNow_29 : decode cX8_penNow 29 = .ok (.aload_n 0, 1) := by decide +kernel
theorem dX8_penNow_30 : decode cX8_penNow 30 = .ok (.getfield 117, 3) := by decide +kernel
theorem dX8_penNow_33 : decode cX8_penNow 33 = .ok (.imul, 1) := by decide +kernel
theorem dX8_penNow_34 : decode cX8_penNow 34 = .ok (.iadd, 1) := by decide +kernel
theorem dX8_penNow_35 : decode cX8_penNow 35 = .ok (.ireturn, 1) := by decide +kernel
theorem dX8_setPen_0 : decode cX8_setPen 0 = .ok (.aload_n 0, 1) := by decide +kernel
theorem dX8_setPen_1 : decode cX8_setPen 1 = .ok (.iload_n 1, 1) := by decide +kernel
theorem dX8_setPen_2 : decode cX8_setPen 2 = .ok (.iconst 1, 1) := by decide +kernel
theorem dX8_setPen_3 : decode cX8_setPen 3 = .ok (.iand, 1) := by decide +kernel
theorem dX8_setPen_4 : decode cX8_setPen 4 = .ok (.putfield 105, 3) := by decide +kernel
theorem dX8_setPen_7 : decode cX8_setPen 7 = .ok (.aload_n 0, 1) := by decide +kernel
theorem dX8_setPen_8 : decode cX8_setPen 8 = .ok (.iload_n 1, 1) := by decide +kernel
theorem dX8_setPen_9 : decode cX8_setPen 9 = .ok (.iconst 1, 1) := by decide +kernel
theorem dX8_setPen_10 : decode cX8_setPen 10 = .ok (.ishr, 1) := by decide +kernel
theorem dX8_setPen_11 : decode cX8_setPen 11 = .ok (.iconst 1, 1) := by decide +kernel
theorem dX8_setPen_12 : decode cX8_setPen 12 = .ok (.iand, 1) := by decide +kernel
theorem dX8_setPen_13 : decode cX8_setPen 13 = .ok (.putfield 108, 3) := by decide +kernel
theorem dX8_setPen_16 : decode cX8_setPen 16 = .ok (.aload_n 0, 1) := by decide +kernel
theorem dX8_setPen_17 : decode cX8_setPen 17 = .ok (.iload_n 1, 1) := by decide +kernel
theorem dX8_setPen_18 : decode cX8_setPen 18 = .ok (.iconst 2, 1) := by decide +kernel
theorem dX8_setPen_19 : decode cX8_setPen 19 = .ok (.ishr, 1) := by decide +kernel
theorem dX8_setPen_20 : decode cX8_setPen 20 = .ok (.iconst 1, 1) := by decide +kernel
theorem dX8_setPen_21 : decode cX8_setPen 21 = .ok (.iand, 1) := by decide +kernel
theorem dX8_setPen_22 : decode cX8_setPen 22 = .ok (.putfield 111, 3) := by decide +kernel
theorem dX8_setPen_25 : decode cX8_setPen 25 = .ok (.aload_n 0, 1) := by decide +kernel
theorem dX8_setPen_26 : decode cX8_setPen 26 = .ok (.iload_n 1, 1) := by decide +kernel
theorem dX8_setPen_27 : decode cX8_setPen 27 = .ok (.iconst 3, 1) := by decide +kernel
theorem dX8_setPen_28 : decode cX8_setPen 28 = .ok (.ishr, 1) := by decide +kernel
theorem dX8_setPen_29 : decode cX8_setPen 29 = .ok (.bipush 15, 2) := by decide +kernel
theorem dX8_setPen_31 : decode cX8_setPen 31 = .ok (.iand, 1) := by decide +kernel
theorem dX8_setPen_32 : decode cX8_setPen 32 = .ok (.putfield 114, 3) := by decide +kernel
theorem dX8_setPen_35 : decode cX8_setPen 35 = .ok (.aload_n 0, 1) := by decide +kernel
theorem dX8_setPen_36 : decode cX8_setPen 36 = .ok (.iload_n 1, 1) := by decide +kernel
theorem dX8_setPen_37 : decode cX8_setPen 37 = .ok (.bipush 7, 2) := by decide +kernel
theorem dX8_setPen_39 : decode cX8_setPen 39 = .ok (.ishr, 1) := by decide +kernel
theorem dX8_setPen_40 : decode cX8_setPen 40 = .ok (.putfield 117, 3) := by decide +kernel
theorem dX8_setPen_43 : decode cX8_setPen 43 = .ok (.return_, 1) := by decide +kernel
theorem dX8_save_0 : decode cX8_save 0 = .ok (.aload_n 0, 1) := by decide +kernel
theorem dX8_save_1 : decode cX8_save 1 = .ok (.aload_n 0, 1) := by decide +kernel
theorem dX8_save_2 : decode cX8_save 2 = .ok (.getfield 96, 3) := by decide +kernel
theorem dX8_save_5 : decode cX8_save 5 = .ok (.putfield 120, 3) := by decide +kernel
theorem dX8_save_8 : decode cX8_save 8 = .ok (.aload_n 0, 1) := by decide +kernel
theorem dX8_save_9 : decode cX8_save 9 = .ok (.aload_n 0, 1) := by decide +kernel
theorem dX8_save_10 : decode cX8_save 10 = .ok (.getfield 99, 3) := by decide +kernel
theorem dX8_save_13 : decode cX8_save 13 = .ok (.putfield 123, 3) := by decide +kernel
theorem dX8_save_16 : decode cX8_save 16 = .ok (.aload_n 0, 1) := by decide +kernel
theorem dX8_save_17 : decode cX8_save 17 = .ok (.aload_n 0, 1) := by decide +kernel
theorem dX8_save_18 : decode cX8_save 18 = .ok (.getfield 102, 3) := by decide +kernel
theorem dX8_save_21 : decode cX8_save 21 = .ok (.putfield 126, 3) := by decide +kernel
theorem dX8_save_24 : decode cX8_save 24 = .ok (.aload_n 0, 1) := by decide +kernel
theorem dX8_save_25 : decode cX8_save 25 = .ok (.aload_n 0, 1) := by decide +kernel
theorem dX8_save_26 : decode cX8_save 26 = .ok (.invokevirtual 129, 3) := by decide +kernel
theorem dX8_save_29 : decode cX8_save 29 = .ok (.putfield 133, 3) := by decide +kernel
theorem dX8_save_32 : decode cX8_save 32 = .ok (.aload_n 0, 1) := by decide +kernel
theorem dX8_save_33 : decode cX8_save 33 = .ok (.aload_n 0, 1) := by decide +kernel
theorem dX8_save_34 : decode cX8_save 34 = .ok (.getfield 69, 3) := by decide +kernel
theorem dX8_save_37 : decode cX8_save 37 = .ok (.putfield 136, 3) := by decide +kernel
theorem dX8_save_40 : decode cX8_save 40 = .ok (.return_, 1) := by decide +kernel
theorem dX8_bring_0 : decode cX8_bring 0 = .ok (.aload_n 0, 1) := by decide +kernel
theorem dX8_bring_1 : decode cX8_bring 1 = .ok (.aload_n 0, 1) := by decide +kernel
theorem dX8_bring_2 : decode cX8_bring 2 = .ok (.getfield 120, 3) := by decide +kernel
theorem dX8_bring_5 : decode cX8_bring 5 = .ok (.aload_n 0, 1) := by decide +kernel
theorem dX8_bring_6 : decode cX8_bring 6 = .ok (.getfield 123, 3) := by decide +kernel
theorem dX8_bring_9 : decode cX8_bring 9 = .ok (.invokevirtual 52, 3) := by decide +kernel
theorem dX8_bring_12 : decode cX8_bring 12 = .ok (.aload_n 0, 1) := by decide +kernel
theorem dX8_bring_13 : decode cX8_bring 13 = .ok (.aload_n 0, 1) := by decide +kernel
theorem dX8_bring_14 : decode cX8_bring 14 = .ok (.getfield 126, 3) := by decide +kernel
theorem dX8_bring_17 : decode cX8_bring 17 = .ok (.putfield 102, 3) := by decide +kernel
theorem dX8_bring_20 : decode cX8_bring 20 = .ok (.aload_n 0, 1) := by decide +kernel
theorem dX8_bring_21 : decode cX8_bring 21 = .ok (.aload_n 0, 1) := by decide +kernel
theorem dX8_bring_22 : decode cX8_bring 22 = .ok (.getfield 133, 3) := by decide +kernel
theorem dX8_bring_25 : decode cX8_bring 25 = .ok (.invokevirtual 56, 3) := by decide +kernel
theorem dX8_bring_28 : decode cX8_bring 28 = .ok (.aload_n 0, 1) := by decide +kernel
theorem dX8_bring_29 : decode cX8_bring 29 = .ok (.aload_n 0, 1) := by decide +kernel
theorem dX8_bring_30 : decode cX8_bring 30 = .ok (.getfield 136, 3) := by decide +kernel
theorem dX8_bring_33 : decode cX8_bring 33 = .ok (.putfield 69, 3) := by decide +kernel
theorem dX8_bring_36 : decode cX8_bring 36 = .ok (.return_, 1) := by decide +kernel
theorem dX8_remember_0 : decode cX8_remember 0 = .ok (.iconst 0, 1) := by decide +kernel
theorem dX8_remember_1 : decode cX8_remember 1 = .ok (.istore_n 1, 1) := by decide +kernel
theorem dX8_remember_2 : decode cX8_remember 2 = .ok (.iload_n 1, 1) := by decide +kernel
theorem dX8_remember_3 : decode cX8_remember 3 = .ok (.bipush 96, 2) := by decide +kernel
theorem dX8_remember_5 : decode cX8_remember 5 = .ok (.if_icmp .ge 49, 3) := by decide +kernel
theorem dX8_remember_8 : decode cX8_remember 8 = .ok (.aload_n 0, 1) := by decide +kernel
theorem dX8_remember_9 : decode cX8_remember 9 = .ok (.getfield 16, 3) := by decide +kernel
theorem dX8_remember_12 : decode cX8_remember 12 = .ok (.iload_n 1, 1) := by decide +kernel
theorem dX8_remember_13 : decode cX8_remember 13 = .ok (.aload_n 0, 1) := by decide +kernel
theorem dX8_remember_14 : decode cX8_remember 14 = .ok (.getfield 7, 3) := by decide +kernel
theorem dX8_remember_17 : decode cX8_remember 17 = .ok (.bipush 96, 2) := by decide +kernel
theorem dX8_remember_19 : decode cX8_remember 19 = .ok (.aload_n 0, 1) := by decide +kernel
theorem dX8_remember_20 : decode cX8_remember 20 = .ok (.getfield 49, 3) := by decide +kernel
theorem dX8_remember_23 : decode cX8_remember 23 = .ok (.imul, 1) := by decide +kernel
theorem dX8_remember_24 : decode cX8_remember 24 = .ok (.iload_n 1, 1) := by decide +kernel
theorem dX8_remember_25 : decode cX8_remember 25 = .ok (.iadd, 1) := by decide +kernel
theorem dX8_remember_26 : decode cX8_remember 26 = .ok (.iaload, 1) := by decide +kernel
theorem dX8_remember_27 : decode cX8_remember 27 = .ok (.iastore, 1) := by decide +kernel
theorem dX8_remember_28 : decode cX8_remember 28 = .ok (.aload_n 0, 1) := by decide +kernel
theorem dX8_remember_29 : decode cX8_remember 29 = .ok (.getfield 19, 3) := by decide +kernel
theorem dX8_remember_32 : decode cX8_remember 32 = .ok (.iload_n 1, 1) := by decide +kernel
theorem dX8_remember_33 : decode cX8_remember 33 = .ok (.aload_n 0, 1) := by decide +kernel
theorem dX8_remember_34 : decode cX8_remember 34 = .ok (.getfield 13, 3) := by decide +kernel
theorem dX8_remember_37 : decode cX8_remember 37 = .ok (.bipush 96, 2) := by decide +kernel
theorem dX8_remember_39 : decode cX8_remember 39 = .ok (.aload_n 0, 1) := by decide +kernel
theorem dX8_remember_40 : decode cX8_remember 40 = .ok (.getfield 49, 3) := by decide +kernel
theorem dX8_remember_43 : decode cX8_remember 43 = .ok (.imul, 1) := by decide +kernel
theorem dX8_remember_44 : decode cX8_remember 44 = .ok (.iload_n 1, 1) := by decide +kernel
theorem dX8_remember_45 : decode cX8_remember 45 = .ok (.iadd, 1) := by decide +kernel
theorem dX8_remember_46 : decode cX8_remember 46 = .ok (.iaload, 1) := by decide +kernel
theorem dX8_remember_47 : decode cX8_remember 47 = .ok (.iastore, 1) := by decide +kernel
theorem dX8_remember_48 : decode cX8_remember 48 = .ok (.iinc 1 1, 3) := by decide +kernel
theorem dX8_remember_51 : decode cX8_remember 51 = .ok (.goto (-49), 3) := by decide +kernel
theorem dX8_remember_54 : decode cX8_remember 54 = .ok (.return_, 1) := by decide +kernel
theorem dX8_recall_0 : decode cX8_recall 0 = .ok (.bipush 96, 2) := by decide +kernel
theorem dX8_recall_2 : decode cX8_recall 2 = .ok (.aload_n 0, 1) := by decide +kernel
theorem dX8_recall_3 : decode cX8_recall 3 = .ok (.getfield 49, 3) := by decide +kernel
theorem dX8_recall_6 : decode cX8_recall 6 = .ok (.imul, 1) := by decide +kernel
theorem dX8_recall_7 : decode cX8_recall 7 = .ok (.iload_n 1, 1) := by decide +kernel
theorem dX8_recall_8 : decode cX8_recall 8 = .ok (.iadd, 1) := by decide +kernel
theorem dX8_recall_9 : decode cX8_recall 9 = .ok (.istore_n 3, 1) := by decide +kernel
theorem dX8_recall_10 : decode cX8_recall 10 = .ok (.aload_n 0, 1) := by decide +kernel
theorem dX8_recall_11 : decode cX8_recall 11 = .ok (.getfield 7, 3) := by decide +kernel
theorem dX8_recall_14 : decode cX8_recall 14 = .ok (.iload_n 3, 1) := by decide +kernel
theorem dX8_recall_15 : decode cX8_recall 15 = .ok (.iload_n 2, 1) := by decide +kernel
theorem dX8_recall_16 : decode cX8_recall 16 = .ok (.ifCond .ge 8, 3) := by decide +kernel
theorem dX8_recall_19 : decode cX8_recall 19 = .ok (.bipush 32, 2) := by decide +kernel
theorem dX8_recall_21 : decode cX8_recall 21 = .ok (.goto 9, 3) := by decide +kernel
theorem dX8_recall_24 : decode cX8_recall 24 = .ok (.aload_n 0, 1) := by decide +kernel
theorem dX8_recall_25 : decode cX8_recall 25 = .ok (.getfield 16, 3) := by decide +kernel
theorem dX8_recall_28 : decode cX8_recall 28 = .ok (.iload_n 2, 1) := by decide +kernel
theorem dX8_recall_29 : decode cX8_recall 29 = .ok (.iaload, 1) := by decide +kernel
theorem dX8_recall_30 : decode cX8_recall 30 = .ok (.iastore, 1) := by decide +kernel
theorem dX8_recall_31 : decode cX8_recall 31 = .ok (.aload_n 0, 1) := by decide +kernel
theorem dX8_recall_32 : decode cX8_recall 32 = .ok (.getfield 13, 3) := by decide +kernel
theorem dX8_recall_35 : decode cX8_recall 35 = .ok (.iload_n 3, 1) := by decide +kernel
theorem dX8_recall_36 : decode cX8_recall 36 = .ok (.iload_n 2, 1) := by decide +kernel
theorem dX8_recall_37 : decode cX8_recall 37 = .ok (.ifCond .ge 7, 3) := by decide +kernel
theorem dX8_recall_40 : decode cX8_recall 40 = .ok (.iconst 0, 1) := by decide +kernel
theorem dX8_recall_41 : decode cX8_recall 41 = .ok (.goto 9, 3) := by decide +kernel
theorem dX8_recall_44 : decode cX8_recall 44 = .ok (.aload_n 0, 1) := by decide +kernel
theorem dX8_recall_45 : decode cX8_recall 45 = .ok (.getfield 19, 3) := by decide +kernel
theorem dX8_recall_48 : decode cX8_recall 48 = .ok (.iload_n 2, 1) := by decide +kernel
theorem dX8_recall_49 : decode cX8_recall 49 = .ok (.iaload, 1) := by decide +kernel
theorem dX8_recall_50 : decode cX8_recall 50 = .ok (.iastore, 1) := by decide +kernel
theorem dX8_recall_51 : decode cX8_recall 51 = .ok (.return_, 1) := by decide +kernel
theorem dX8_shiftRows_0 : decode cX8_shiftRows 0 = .ok (.aload_n 0, 1) := by decide +kernel
theorem dX8_shiftRows_1 : decode cX8_shiftRows 1 = .ok (.invokevirtual 139, 3) := by decide +kernel
theorem dX8_shiftRows_4 : decode cX8_shiftRows 4 = .ok (.iload_n 1, 1) := by decide +kernel
theorem dX8_shiftRows_5 : decode cX8_shiftRows 5 = .ok (.istore_n 3, 1) := by decide +kernel
theorem dX8_shiftRows_6 : decode cX8_shiftRows 6 = .ok (.iload_n 3, 1) := by decide +kernel
theorem dX8_shiftRows_7 : decode cX8_shiftRows 7 = .ok (.aload_n 0, 1) := by decide +kernel
theorem dX8_shiftRows_8 : decode cX8_shiftRows 8 = .ok (.getfield 62, 3) := by decide +kernel
theorem dX8_shiftRows_11 : decode cX8_shiftRows 11 = .ok (.if_icmp .gt 68, 3) := by decide +kernel
theorem dX8_shiftRows_14 : decode cX8_shiftRows 14 = .ok (.iload_n 3, 1) := by decide +kernel
theorem dX8_shiftRows_15 : decode cX8_shiftRows 15 = .ok (.iload_n 2, 1) := by decide +kernel
theorem dX8_shiftRows_16 : decode cX8_shiftRows 16 = .ok (.iadd, 1) := by decide +kernel
theorem dX8_shiftRows_17 : decode cX8_shiftRows 17 = .ok (.istore 4, 2) := by decide +kernel
theorem dX8_shiftRows_19 : decode cX8_shiftRows 19 = .ok (.iconst 0, 1) := by decide +kernel
theorem dX8_shiftRows_20 : decode cX8_shiftRows 20 = .ok (.istore 5, 2) := by decide +kernel
theorem dX8_shiftRows_22 : decode cX8_shiftRows 22 = .ok (.iload 5, 2) := by decide +kernel
theorem dX8_shiftRows_24 : decode cX8_shiftRows 24 = .ok (.bipush 12, 2) := by decide +kernel
theorem dX8_shiftRows_26 : decode cX8_shiftRows 26 = .ok (.if_icmp .ge 47, 3) := by decide +kernel
theorem dX8_shiftRows_29 : decode cX8_shiftRows 29 = .ok (.aload_n 0, 1) := by decide +kernel
theorem dX8_shiftRows_30 : decode cX8_shiftRows 30 = .ok (.bipush 12, 2) := by decide +kernel
theorem dX8_shiftRows_32 : decode cX8_shiftRows 32 = .ok (.iload_n 3, 1) := by decide +kernel
theorem dX8_shiftRows_33 : decode cX8_shiftRows 33 = .ok (.imul, 1) := by decide +kernel
theorem dX8_shiftRows_34 : decode cX8_shiftRows 34 = .ok (.iload 5, 2) := by decide +kernel
theorem dX8_shiftRows_36 : decode cX8_shiftRows 36 = .ok (.iadd, 1) := by decide +kernel
theorem dX8_shiftRows_37 : decode cX8_shiftRows 37 = .ok (.iload 4, 2) := by decide +kernel
theorem dX8_shiftRows_39 : decode cX8_shiftRows 39 = .ok (.iload_n 1, 1) := by decide +kernel
theorem dX8_shiftRows_40 : decode cX8_shiftRows 40 = .ok (.if_icmp .lt 12, 3) := by decide +kernel
theorem dX8_shiftRows_43 : decode cX8_shiftRows 43 = .ok (.iload 4, 2) := by decide +kernel
theorem dX8_shiftRows_45 : decode cX8_shiftRows 45 = .ok (.aload_n 0, 1) := by decide +kernel
theorem dX8_shiftRows_46 : decode cX8_shiftRows 46 = .ok (.getfield 62, 3) := by decide +kernel
theorem dX8_shiftRows_49 : decode cX8_shiftRows 49 = .ok (.if_icmp .le 7, 3) := by decide +kernel
theorem dX8_shiftRows_52 : decode cX8_shiftRows 52 = .ok (.iconst (-1), 1) := by decide +kernel
theorem dX8_shiftRows_53 : decode cX8_shiftRows 53 = .ok (.goto 11, 3) := by decide +kernel
theorem dX8_shiftRows_56 : decode cX8_shiftRows 56 = .ok (.bipush 12, 2) := by decide +kernel
theorem dX8_shiftRows_58 : decode cX8_shiftRows 58 = .ok (.iload 4, 2) := by decide +kernel
theorem dX8_shiftRows_60 : decode cX8_shiftRows 60 = .ok (.imul, 1) := by decide +kernel
theorem dX8_shiftRows_61 : decode cX8_shiftRows 61 = .ok (.iload 5, 2) := by decide +kernel
theorem dX8_shiftRows_63 : decode cX8_shiftRows 63 = .ok (.iadd, 1) := by decide +kernel
theorem dX8_shiftRows_64 : decode cX8_shiftRows 64 = .ok (.invokevirtual 142, 3) := by decide +kernel
theorem dX8_shiftRows_67 : decode cX8_shiftRows 67 = .ok (.iinc 5 1, 3) := by decide +kernel
theorem dX8_shiftRows_70 : decode cX8_shiftRows 70 = .ok (.goto (-48), 3) := by decide +kernel
theorem dX8_shiftRows_73 : decode cX8_shiftRows 73 = .ok (.iinc 3 1, 3) := by decide +kernel
theorem dX8_shiftRows_76 : decode cX8_shiftRows 76 = .ok (.goto (-70), 3) := by decide +kernel
theorem dX8_shiftRows_79 : decode cX8_shiftRows 79 = .ok (.return_, 1) := by decide +kernel
theorem dX8_shiftCells_0 : decode cX8_shiftCells 0 = .ok (.aload_n 0, 1) := by decide +kernel
theorem dX8_shiftCells_1 : decode cX8_shiftCells 1 = .ok (.invokevirtual 139, 3) := by decide +kernel
theorem dX8_shiftCells_4 : decode cX8_shiftCells 4 = .ok (.aload_n 0, 1) := by decide +kernel
theorem dX8_shiftCells_5 : decode cX8_shiftCells 5 = .ok (.getfield 99, 3) := by decide +kernel
theorem dX8_shiftCells_8 : decode cX8_shiftCells 8 = .ok (.istore_n 2, 1) := by decide +kernel
theorem dX8_shiftCells_9 : decode cX8_shiftCells 9 = .ok (.iload_n 2, 1) := by decide +kernel
theorem dX8_shiftCells_10 : decode cX8_shiftCells 10 = .ok (.bipush 12, 2) := by decide +kernel
theorem dX8_shiftCells_12 : decode cX8_shiftCells 12 = .ok (.if_icmp .ge 53, 3) := by decide +kernel
theorem dX8_shiftCells_15 : decode cX8_shiftCells 15 = .ok (.iload_n 2, 1) := by decide +kernel
theorem dX8_shiftCells_16 : decode cX8_shiftCells 16 = .ok (.iload_n 1, 1) := by decide +kernel
theorem dX8_shiftCells_17 : decode cX8_shiftCells 17 = .ok (.iadd, 1) := by decide +kernel
theorem dX8_shiftCells_18 : decode cX8_shiftCells 18 = .ok (.istore_n 3, 1) := by decide +kernel
theorem dX8_shiftCells_19 : decode cX8_shiftCells 19 = .ok (.aload_n 0, 1) := by decide +kernel
theorem dX8_shiftCells_20 : decode cX8_shiftCells 20 = .ok (.bipush 12, 2) := by decide +kernel
theorem dX8_shiftCells_22 : decode cX8_shiftCells 22 = .ok (.aload_n 0, 1) := by decide +kernel
theorem dX8_shiftCells_23 : decode cX8_shiftCells 23 = .ok (.getfield 96, 3) := by decide +kernel
theorem dX8_shiftCells_26 : decode cX8_shiftCells 26 = .ok (.imul, 1) := by decide +kernel
theorem dX8_shiftCells_27 : decode cX8_shiftCells 27 = .ok (.iload_n 2, 1) := by decide +kernel
theorem dX8_shiftCells_28 : decode cX8_shiftCells 28 = .ok (.iadd, 1) := by decide +kernel
theorem dX8_shiftCells_29 : decode cX8_shiftCells 29 = .ok (.iload_n 3, 1) := by decide +kernel
theorem dX8_shiftCells_30 : decode cX8_shiftCells 30 = .ok (.aload_n 0, 1) := by decide +kernel
theorem dX8_shiftCells_31 : decode cX8_shiftCells 31 = .ok (.getfield 99, 3) := by decide +kernel
theorem dX8_shiftCells_34 : decode cX8_shiftCells 34 = .ok (.if_icmp .lt 9, 3) := by decide +kernel
theorem dX8_shiftCells_37 : decode cX8_shiftCells 37 = .ok (.iload_n 3, 1) := by decide +kernel
theorem dX8_shiftCells_38 : decode cX8_shiftCells 38 = .ok (.bipush 12, 2) := by decide +kernel
theorem dX8_shiftCells_40 : decode cX8_shiftCells 40 = .ok (.if_icmp .lt 7, 3) := by decide +kernel
theorem dX8_shiftCells_43 : decode cX8_shiftCells 43 = .ok (.iconst (-1), 1) := by decide +kernel
theorem dX8_shiftCells_44 : decode cX8_shiftCells 44 = .ok (.goto 12, 3) := by decide +kernel
theorem dX8_shiftCells_47 : decode cX8_shiftCells 47 = .ok (.bipush 12, 2) := by decide +kernel
theorem dX8_shiftCells_49 : decode cX8_shiftCells 49 = .ok (.aload_n 0, 1) := by decide +kernel
theorem dX8_shiftCells_50 : decode cX8_shiftCells 50 = .ok (.getfield 96, 3) := by decide +kernel
theorem dX8_shiftCells_53 : decode cX8_shiftCells 53 = .ok (.imul, 1) := by decide +kernel
theorem dX8_shiftCells_54 : decode cX8_shiftCells 54 = .ok (.iload_n 3, 1) := by decide +kernel
theorem dX8_shiftCells_55 : decode cX8_shiftCells 55 = .ok (.iadd, 1) := by decide +kernel
theorem dX8_shiftCells_56 : decode cX8_shiftCells 56 = .ok (.invokevirtual 142, 3) := by decide +kernel
theorem dX8_shiftCells_59 : decode cX8_shiftCells 59 = .ok (.iinc 2 1, 3) := by decide +kernel
theorem dX8_shiftCells_62 : decode cX8_shiftCells 62 = .ok (.goto (-53), 3) := by decide +kernel
theorem dX8_shiftCells_65 : decode cX8_shiftCells 65 = .ok (.return_, 1) := by decide +kernel
theorem dX8_clear_0 : decode cX8_clear 0 = .ok (.iload_n 1, 1) := by decide +kernel
theorem dX8_clear_1 : decode cX8_clear 1 = .ok (.istore_n 3, 1) := by decide +kernel
theorem dX8_clear_2 : decode cX8_clear 2 = .ok (.iload_n 3, 1) := by decide +kernel
theorem dX8_clear_3 : decode cX8_clear 3 = .ok (.iload_n 2, 1) := by decide +kernel
theorem dX8_clear_4 : decode cX8_clear 4 = .ok (.if_icmp .gt 22, 3) := by decide +kernel
theorem dX8_clear_7 : decode cX8_clear 7 = .ok (.aload_n 0, 1) := by decide +kernel
theorem dX8_clear_8 : decode cX8_clear 8 = .ok (.bipush 96, 2) := by decide +kernel
theorem dX8_clear_10 : decode cX8_clear 10 = .ok (.aload_n 0, 1) := by decide +kernel
theorem dX8_clear_11 : decode cX8_clear 11 = .ok (.getfield 49, 3) := by decide +kernel
theorem dX8_clear_14 : decode cX8_clear 14 = .ok (.imul, 1) := by decide +kernel
theorem dX8_clear_15 : decode cX8_clear 15 = .ok (.iload_n 3, 1) := by decide +kernel
theorem dX8_clear_16 : decode cX8_clear 16 = .ok (.iadd, 1) := by decide +kernel
theorem dX8_clear_17 : decode cX8_clear 17 = .ok (.invokevirtual 45, 3) := by decide +kernel
theorem dX8_clear_20 : decode cX8_clear 20 = .ok (.iinc 3 1, 3) := by decide +kernel
theorem dX8_clear_23 : decode cX8_clear 23 = .ok (.goto (-21), 3) := by decide +kernel
theorem dX8_clear_26 : decode cX8_clear 26 = .ok (.return_, 1) := by decide +kernel
theorem dX8_feeding_0 : decode cX8_feeding 0 = .ok (.aload_n 0, 1) := by decide +kernel
theorem dX8_feeding_1 : decode cX8_feeding 1 = .ok (.getfield 96, 3) := by decide +kernel
theorem dX8_feeding_4 : decode cX8_feeding 4 = .ok (.aload_n 0, 1) := by decide +kernel
theorem dX8_feeding_5 : decode cX8_feeding 5 = .ok (.getfield 62, 3) := by decide +kernel
theorem dX8_feeding_8 : decode cX8_feeding 8 = .ok (.if_icmp .ne 15, 3) := by decide +kernel
theorem dX8_feeding_11 : decode cX8_feeding 11 = .ok (.aload_n 0, 1) := by decide +kernel
theorem dX8_feeding_12 : decode cX8_feeding 12 = .ok (.aload_n 0, 1) := by decide +kernel
theorem dX8_feeding_13 : decode cX8_feeding 13 = .ok (.getfield 59, 3) := by decide +kernel
theorem dX8_feeding_16 : decode cX8_feeding 16 = .ok (.iconst 1, 1) := by decide +kernel
theorem dX8_feeding_17 : decode cX8_feeding 17 = .ok (.invokevirtual 145, 3) := by decide +kernel
theorem dX8_feeding_20 : decode cX8_feeding 20 = .ok (.goto 22, 3) := by decide +kernel
theorem dX8_feeding_23 : decode cX8_feeding 23 = .ok (.aload_n 0, 1) := by decide +kernel
theorem dX8_feeding_24 : decode cX8_feeding 24 = .ok (.getfield 96, 3) := by decide +kernel
theorem dX8_feeding_27 : decode cX8_feeding 27 = .ok (.bipush 7, 2) := by decide +kernel
theorem dX8_feeding_29 : decode cX8_feeding 29 = .ok (.if_icmp .ge 13, 3) := by decide +kernel
theorem dX8_feeding_32 : decode cX8_feeding 32 = .ok (.aload_n 0, 1) := by decide +kernel
theorem dX8_feeding_33 : decode cX8_feeding 33 = .ok (.aload_n 0, 1) := by decide +kernel
theorem dX8_feeding_34 : decode cX8_feeding 34 = .ok (.getfield 96, 3) := by decide +kernel
theorem dX8_feeding_37 : decode cX8_feeding 37 = .ok (.iconst 1, 1) := by decide +kernel
theorem dX8_feeding_38 : decode cX8_feeding 38 = .ok (.iadd, 1) := by decide +kernel
theorem dX8_feeding_39 : decode cX8_feeding 39 = .ok (.putfield 96, 3) := by decide +kernel
theorem dX8_feeding_42 : decode cX8_feeding 42 = .ok (.aload_n 0, 1) := by decide +kernel
theorem dX8_feeding_43 : decode cX8_feeding 43 = .ok (.iconst 0, 1) := by decide +kernel
theorem dX8_feeding_44 : decode cX8_feeding 44 = .ok (.putfield 102, 3) := by decide +kernel
theorem dX8_feeding_47 : decode cX8_feeding 47 = .ok (.return_, 1) := by decide +kernel
theorem dX8_backing_0 : decode cX8_backing 0 = .ok (.aload_n 0, 1) := by decide +kernel
theorem dX8_backing_1 : decode cX8_backing 1 = .ok (.getfield 96, 3) := by decide +kernel
theorem dX8_backing_4 : decode cX8_backing 4 = .ok (.aload_n 0, 1) := by decide +kernel
theorem dX8_backing_5 : decode cX8_backing 5 = .ok (.getfield 59, 3) := by decide +kernel
theorem dX8_backing_8 : decode cX8_backing 8 = .ok (.if_icmp .ne 15, 3) := by decide +kernel
theorem dX8_backing_11 : decode cX8_backing 11 = .ok (.aload_n 0, 1) := by decide +kernel
theorem dX8_backing_12 : decode cX8_backing 12 = .ok (.aload_n 0, 1) := by decide +kernel
theorem dX8_backing_13 : decode cX8_backing 13 = .ok (.getfield 59, 3) := by decide +kernel
theorem dX8_backing_16 : decode cX8_backing 16 = .ok (.iconst (-1), 1) := by decide +kernel
theorem dX8_backing_17 : decode cX8_backing 17 = .ok (.invokevirtual 145, 3) := by decide +kernel
theorem dX8_backing_20 : decode cX8_backing 20 = .ok (.goto 20, 3) := by decide +kernel
theorem dX8_backing_23 : decode cX8_backing 23 = .ok (.aload_n 0, 1) := by decide +kernel
theorem dX8_backing_24 : decode cX8_backing 24 = .ok (.getfield 96, 3) := by decide +kernel
theorem dX8_backing_27 : decode cX8_backing 27 = .ok (.ifCond .le 13, 3) := by decide +kernel
theorem dX8_backing_30 : decode cX8_backing 30 = .ok (.aload_n 0, 1) := by decide +kernel
theorem dX8_backing_31 : decode cX8_backing 31 = .ok (.aload_n 0, 1) := by decide +kernel
theorem dX8_backing_32 : decode cX8_backing 32 = .ok (.getfield 96, 3) := by decide +kernel
theorem dX8_backing_35 : decode cX8_backing 35 = .ok (.iconst 1, 1) := by decide +kernel
theorem dX8_backing_36 : decode cX8_backing 36 = .ok (.isub, 1) := by decide +kernel
theorem dX8_backing_37 : decode cX8_backing 37 = .ok (.putfield 96, 3) := by decide +kernel
theorem dX8_backing_40 : decode cX8_backing 40 = .ok (.aload_n 0, 1) := by decide +kernel
theorem dX8_backing_41 : decode cX8_backing 41 = .ok (.iconst 0, 1) := by decide +kernel
theorem dX8_backing_42 : decode cX8_backing 42 = .ok (.putfield 102, 3) := by decide +kernel
theorem dX8_backing_45 : decode cX8_backing 45 = .ok (.return_, 1) := by decide +kernel
theorem dX8_print_0 : decode cX8_print 0 = .ok (.aload_n 0, 1) := by decide +kernel
theorem dX8_print_1 : decode cX8_print 1 = .ok (.getfield 102, 3) := by decide +kernel
theorem dX8_print_4 : decode cX8_print 4 = .ok (.ifCond .eq 12, 3) := by decide +kernel
theorem dX8_print_7 : decode cX8_print 7 = .ok (.aload_n 0, 1) := by decide +kernel
theorem dX8_print_8 : decode cX8_print 8 = .ok (.iconst 0, 1) := by decide +kernel
theorem dX8_print_9 : decode cX8_print 9 = .ok (.putfield 99, 3) := by decide +kernel
theorem dX8_print_12 : decode cX8_print 12 = .ok (.aload_n 0, 1) := by decide +kernel
theorem dX8_print_13 : decode cX8_print 13 = .ok (.invokevirtual 148, 3) := by decide +kernel
theorem dX8_print_16 : decode cX8_print 16 = .ok (.aload_n 0, 1) := by decide +kernel
theorem dX8_print_17 : decode cX8_print 17 = .ok (.getfield 65, 3) := by decide +kernel
theorem dX8_print_20 : decode cX8_print 20 = .ok (.ifCond .eq 8, 3) := by decide +kernel
theorem dX8_print_23 : decode cX8_print 23 = .ok (.aload_n 0, 1) := by decide +kernel
theorem dX8_print_24 : decode cX8_print 24 = .ok (.iconst (-1), 1) := by decide +kernel
theorem dX8_print_25 : decode cX8_print 25 = .ok (.invokevirtual 151, 3) := by decide +kernel
theorem dX8_print_28 : decode cX8_print 28 = .ok (.bipush 96, 2) := by decide +kernel
theorem dX8_print_30 : decode cX8_print 30 = .ok (.aload_n 0, 1) := by decide +kernel
theorem dX8_print_31 : decode cX8_print 31 = .ok (.getfield 49, 3) := by decide +kernel
theorem dX8_print_34 : decode cX8_print 34 = .ok (.imul, 1) := by decide +kernel
theorem dX8_print_35 : decode cX8_print 35 = .ok (.bipush 12, 2) := by decide +kernel
theorem dX8_print_37 : decode cX8_print 37 = .ok (.aload_n 0, 1) := by decide +kernel
theorem dX8_print_38 : decode cX8_print 38 = .ok (.getfield 96, 3) := by decide +kernel
theorem dX8_print_41 : decode cX8_print 41 = .ok (.imul, 1) := by decide +kernel
theorem dX8_print_42 : decode cX8_print 42 = .ok (.iadd, 1) := by decide +kernel
theorem dX8_print_43 : decode cX8_print 43 = .ok (.aload_n 0, 1) := by decide +kernel
theorem dX8_print_44 : decode cX8_print 44 = .ok (.getfield 99, 3) := by decide +kernel
theorem dX8_print_47 : decode cX8_print 47 = .ok (.iadd, 1) := by decide +kernel
theorem dX8_print_48 : decode cX8_print 48 = .ok (.istore_n 2, 1) := by decide +kernel
theorem dX8_print_49 : decode cX8_print 49 = .ok (.aload_n 0, 1) := by decide +kernel
theorem dX8_print_50 : decode cX8_print 50 = .ok (.getfield 7, 3) := by decide +kernel
theorem dX8_print_53 : decode cX8_print 53 = .ok (.iload_n 2, 1) := by decide +kernel
theorem dX8_print_54 : decode cX8_print 54 = .ok (.iload_n 1, 1) := by decide +kernel
theorem dX8_print_55 : decode cX8_print 55 = .ok (.iastore, 1) := by decide +kernel
theorem dX8_print_56 : decode cX8_print 56 = .ok (.aload_n 0, 1) := by decide +kernel
theorem dX8_print_57 : decode cX8_print 57 = .ok (.getfield 13, 3) := by decide +kernel
theorem dX8_print_60 : decode cX8_print 60 = .ok (.iload_n 2, 1) := by decide +kernel
theorem dX8_print_61 : decode cX8_print 61 = .ok (.aload_n 0, 1) := by decide +kernel
theorem dX8_print_62 : decode cX8_print 62 = .ok (.invokevirtual 129, 3) := by decide +kernel
theorem dX8_print_65 : decode cX8_print 65 = .ok (.iastore, 1) := by decide +kernel
theorem dX8_print_66 : decode cX8_print 66 = .ok (.aload_n 0, 1) := by decide +kernel
theorem dX8_print_67 : decode cX8_print 67 = .ok (.getfield 99, 3) := by decide +kernel
theorem dX8_print_70 : decode cX8_print 70 = .ok (.bipush 11, 2) := by decide +kernel
theorem dX8_print_72 : decode cX8_print 72 = .ok (.if_icmp .ge 16, 3) := by decide +kernel
theorem dX8_print_75 : decode cX8_print 75 = .ok (.aload_n 0, 1) := by decide +kernel
theorem dX8_print_76 : decode cX8_print 76 = .ok (.aload_n 0, 1) := by decide +kernel
theorem dX8_print_77 : decode cX8_print 77 = .ok (.getfield 99, 3) := by decide +kernel
theorem dX8_print_80 : decode cX8_print 80 = .ok (.iconst 1, 1) := by decide +kernel
theorem dX8_print_81 : decode cX8_print 81 = .ok (.iadd, 1) := by decide +kernel
theorem dX8_print_82 : decode cX8_print 82 = .ok (.putfield 99, 3) := by decide +kernel
theorem dX8_print_85 : decode cX8_print 85 = .ok (.goto 11, 3) := by decide +kernel
theorem dX8_print_88 : decode cX8_print 88 = .ok (.aload_n 0, 1) := by decide +kernel
theorem dX8_print_89 : decode cX8_print 89 = .ok (.aload_n 0, 1) := by decide +kernel
theorem dX8_print_90 : decode cX8_print 90 = .ok (.getfield 72, 3) := by decide +kernel
theorem dX8_print_93 : decode cX8_print 93 = .ok (.putfield 102, 3) := by decide +kernel
theorem dX8_print_96 : decode cX8_print 96 = .ok (.aload_n 0, 1) := by decide +kernel
theorem dX8_print_97 : decode cX8_print 97 = .ok (.iload_n 1, 1) := by decide +kernel
theorem dX8_print_98 : decode cX8_print 98 = .ok (.putfield 78, 3) := by decide +kernel
theorem dX8_print_101 : decode cX8_print 101 = .ok (.return_, 1) := by decide +kernel
theorem dX8_feed_0 : decode cX8_feed 0 = .ok (.aload_n 0, 1) := by decide +kernel
theorem dX8_feed_1 : decode cX8_feed 1 = .ok (.iconst 0, 1) := by decide +kernel
theorem dX8_feed_2 : decode cX8_feed 2 = .ok (.putfield 41, 3) := by decide +kernel
theorem dX8_feed_5 : decode cX8_feed 5 = .ok (.iload_n 1, 1) := by decide +kernel
theorem dX8_feed_6 : decode cX8_feed 6 = .ok (.ifCond .lt 10, 3) := by decide +kernel
theorem dX8_feed_9 : decode cX8_feed 9 = .ok (.iload_n 1, 1) := by decide +kernel
theorem dX8_feed_10 : decode cX8_feed 10 = .ok (.sipush 255, 3) := by decide +kernel
theorem dX8_feed_13 : decode cX8_feed 13 = .ok (.if_icmp .le 5, 3) := by decide +kernel
theorem dX8_feed_16 : decode cX8_feed 16 = .ok (.iconst 0, 1) := by decide +kernel
theorem dX8_feed_17 : decode cX8_feed 17 = .ok (.ireturn, 1) := by decide +kernel
theorem dX8_feed_18 : decode cX8_feed 18 = .ok (.aload_n 0, 1) := by decide +kernel
theorem dX8_feed_19 : decode cX8_feed 19 = .ok (.iload_n 1, 1) := by decide +kernel
theorem dX8_feed_20 : decode cX8_feed 20 = .ok (.invokevirtual 154, 3) := by decide +kernel
theorem dX8_feed_23 : decode cX8_feed 23 = .ok (.iconst 1, 1) := by decide +kernel
theorem dX8_feed_24 : decode cX8_feed 24 = .ok (.ireturn, 1) := by decide +kernel
theorem dX8_feedAll_0 : decode cX8_feedAll 0 = .ok (.aload_n 0, 1) := by decide +kernel
theorem dX8_feedAll_1 : decode cX8_feedAll 1 = .ok (.iconst 0, 1) := by decide +kernel
theorem dX8_feedAll_2 : decode cX8_feedAll 2 = .ok (.putfield 41, 3) := by decide +kernel
theorem dX8_feedAll_5 : decode cX8_feedAll 5 = .ok (.iconst 0, 1) := by decide +kernel
theorem dX8_feedAll_6 : decode cX8_feedAll 6 = .ok (.istore_n 3, 1) := by decide +kernel
theorem dX8_feedAll_7 : decode cX8_feedAll 7 = .ok (.iconst 1, 1) := by decide +kernel
theorem dX8_feedAll_8 : decode cX8_feedAll 8 = .ok (.istore 4, 2) := by decide +kernel
theorem dX8_feedAll_10 : decode cX8_feedAll 10 = .ok (.iconst 0, 1) := by decide +kernel
theorem dX8_feedAll_11 : decode cX8_feedAll 11 = .ok (.istore 5, 2) := by decide +kernel
theorem dX8_feedAll_13 : decode cX8_feedAll 13 = .ok (.iload 5, 2) := by decide +kernel
theorem dX8_feedAll_15 : decode cX8_feedAll 15 = .ok (.bipush 8, 2) := by decide +kernel
theorem dX8_feedAll_17 : decode cX8_feedAll 17 = .ok (.if_icmp .ge 55, 3) := by decide +kernel
theorem dX8_feedAll_20 : decode cX8_feedAll 20 = .ok (.lload_n 1, 1) := by decide +kernel
theorem dX8_feedAll_21 : decode cX8_feedAll 21 = .ok (.bipush 8, 2) := by decide +kernel
theorem dX8_feedAll_23 : decode cX8_feedAll 23 = .ok (.iload 5, 2) := by decide +kernel
theorem dX8_feedAll_25 : decode cX8_feedAll 25 = .ok (.imul, 1) := by decide +kernel
theorem dX8_feedAll_26 : decode cX8_feedAll 26 = .ok (.lshr, 1) := by decide +kernel
theorem dX8_feedAll_27 : decode cX8_feedAll 27 = .ok (.l2i, 1) := by decide +kernel
theorem dX8_feedAll_28 : decode cX8_feedAll 28 = .ok (.sipush 255, 3) := by decide +kernel
theorem dX8_feedAll_31 : decode cX8_feedAll 31 = .ok (.iand, 1) := by decide +kernel
theorem dX8_feedAll_32 : decode cX8_feedAll 32 = .ok (.istore 6, 2) := by decide +kernel
theorem dX8_feedAll_34 : decode cX8_feedAll 34 = .ok (.iload 4, 2) := by decide +kernel
theorem dX8_feedAll_36 : decode cX8_feedAll 36 = .ok (.ifCond .eq 12, 3) := by decide +kernel
theorem dX8_feedAll_39 : decode cX8_feedAll 39 = .ok (.iload 6, 2) := by decide +kernel
theorem dX8_feedAll_41 : decode cX8_feedAll 41 = .ok (.ifCond .eq 7, 3) := by decide +kernel
theorem dX8_feedAll_44 : decode cX8_feedAll 44 = .ok (.iconst 1, 1) := by decide +kernel
theorem dX8_feedAll_45 : decode cX8_feedAll 45 = .ok (.goto 4, 3) := by decide +kernel
theorem dX8_feedAll_48 : decode cX8_feedAll 48 = .ok (.iconst 0, 1) := by decide +kernel
theorem dX8_feedAll_49 : decode cX8_feedAll 49 = .ok (.istore 4, 2) := by decide +kernel
theorem dX8_feedAll_51 : decode cX8_feedAll 51 = .ok (.iload 4, 2) := by decide +kernel
theorem dX8_feedAll_53 : decode cX8_feedAll 53 = .ok (.ifCond .eq 13, 3) := by decide +kernel
theorem dX8_feedAll_56 : decode cX8_feedAll 56 = .ok (.aload_n 0, 1) := by decide +kernel
theorem dX8_feedAll_57 : decode cX8_feedAll 57 = .ok (.iload 6, 2) := by decide +kernel
theorem dX8_feedAll_59 : decode cX8_feedAll 59 = .ok (.invokevirtual 154, 3) := by decide +kernel
theorem dX8_feedAll_62 : decode cX8_feedAll 62 = .ok (.iload_n 3, 1) := by decide +kernel
theorem dX8_feedAll_63 : decode cX8_feedAll 63 = .ok (.iconst 1, 1) := by decide +kernel
theorem dX8_feedAll_64 : decode cX8_feedAll 64 = .ok (.iadd, 1) := by decide +kernel
theorem dX8_feedAll_65 : decode cX8_feedAll 65 = .ok (.istore_n 3, 1) := by decide +kernel
theorem dX8_feedAll_66 : decode cX8_feedAll 66 = .ok (.iinc 5 1, 3) := by decide +kernel
theorem dX8_feedAll_69 : decode cX8_feedAll 69 = .ok (.goto (-56), 3) := by decide +kernel
theorem dX8_feedAll_72 : decode cX8_feedAll 72 = .ok (.iload_n 3, 1) := by decide +kernel
theorem dX8_feedAll_73 : decode cX8_feedAll 73 = .ok (.ireturn, 1) := by decide +kernel
theorem dX8_take_0 : decode cX8_take 0 = .ok (.aload_n 0, 1) := by decide +kernel
theorem dX8_take_1 : decode cX8_take 1 = .ok (.getfield 90, 3) := by decide +kernel
theorem dX8_take_4 : decode cX8_take 4 = .ok (.ifCond .ne 41, 3) := by decide +kernel
theorem dX8_take_7 : decode cX8_take 7 = .ok (.aload_n 0, 1) := by decide +kernel
theorem dX8_take_8 : decode cX8_take 8 = .ok (.getfield 93, 3) := by decide +kernel
theorem dX8_take_11 : decode cX8_take 11 = .ok (.ifCond .le 34, 3) := by decide +kernel
theorem dX8_take_14 : decode cX8_take 14 = .ok (.iload_n 1, 1) := by decide +kernel
theorem dX8_take_15 : decode cX8_take 15 = .ok (.sipush 128, 3) := by decide +kernel
theorem dX8_take_18 : decode cX8_take 18 = .ok (.if_icmp .lt 16, 3) := by decide +kernel
theorem dX8_take_21 : decode cX8_take 21 = .ok (.iload_n 1, 1) := by decide +kernel
theorem dX8_take_22 : decode cX8_take 22 = .ok (.sipush 191, 3) := by decide +kernel
theorem dX8_take_25 : decode cX8_take 25 = .ok (.if_icmp .gt 9, 3) := by decide +kernel
theorem dX8_take_28 : decode cX8_take 28 = .ok (.aload_n 0, 1) := by decide +kernel
theorem dX8_take_29 : decode cX8_take 29 = .ok (.iload_n 1, 1) := by decide +kernel
theorem dX8_take_30 : decode cX8_take 30 = .ok (.invokevirtual 157, 3) := by decide +kernel
theorem dX8_take_33 : decode cX8_take 33 = .ok (.return_, 1) := by decide +kernel
theorem dX8_take_34 : decode cX8_take 34 = .ok (.aload_n 0, 1) := by decide +kernel
theorem dX8_take_35 : decode cX8_take 35 = .ok (.iconst 0, 1) := by decide +kernel
theorem dX8_take_36 : decode cX8_take 36 = .ok (.putfield 93, 3) := by decide +kernel
theorem dX8_take_39 : decode cX8_take 39 = .ok (.aload_n 0, 1) := by decide +kernel
theorem dX8_take_40 : decode cX8_take 40 = .ok (.ldc 160, 2) := by decide +kernel
theorem dX8_take_42 : decode cX8_take 42 = .ok (.invokevirtual 161, 3) := by decide +kernel
theorem dX8_take_45 : decode cX8_take 45 = .ok (.iload_n 1, 1) := by decide +kernel
theorem dX8_take_46 : decode cX8_take 46 = .ok (.bipush 24, 2) := by decide +kernel
theorem dX8_take_48 : decode cX8_take 48 = .ok (.if_icmp .eq 9, 3) := by decide +kernel
theorem dX8_take_51 : decode cX8_take 51 = .ok (.iload_n 1, 1) := by decide +kernel
theorem dX8_take_52 : decode cX8_take 52 = .ok (.bipush 26, 2) := by decide +kernel
theorem dX8_take_54 : decode cX8_take 54 = .ok (.if_icmp .ne 11, 3) := by decide +kernel
theorem dX8_take_57 : decode cX8_take 57 = .ok (.aload_n 0, 1) := by decide +kernel
theorem dX8_take_58 : decode cX8_take 58 = .ok (.iconst 0, 1) := by decide +kernel
theorem dX8_take_59 : decode cX8_take 59 = .ok (.putfield 90, 3) := by decide +kernel
theorem dX8_take_62 : decode cX8_take 62 = .ok (.goto 73, 3) := by decide +kernel
theorem dX8_take_65 : decode cX8_take 65 = .ok (.iload_n 1, 1) := by decide +kernel
theorem dX8_take_66 : decode cX8_take 66 = .ok (.bipush 27, 2) := by decide +kernel
theorem dX8_take_68 : decode cX8_take 68 = .ok (.if_icmp .ne 11, 3) := by decide +kernel
theorem dX8_take_71 : decode cX8_take 71 = .ok (.aload_n 0, 1) := by decide +kernel
theorem dX8_take_72 : decode cX8_take 72 = .ok (.iconst 1, 1) := by decide +kernel
theorem dX8_take_73 : decode cX8_take 73 = .ok (.putfield 90, 3) := by decide +kernel
theorem dX8_take_76 : decode cX8_take 76 = .ok (.goto 59, 3) := by decide +kernel
theorem dX8_take_79 : decode cX8_take 79 = .ok (.iload_n 1, 1) := by decide +kernel
theorem dX8_take_80 : decode cX8_take 80 = .ok (.bipush 127, 2) := by decide +kernel
theorem dX8_take_82 : decode cX8_take 82 = .ok (.if_icmp .ne 4, 3) := by decide +kernel
theorem dX8_take_85 : decode cX8_take 85 = .ok (.return_, 1) := by decide +kernel
theorem dX8_take_86 : decode cX8_take 86 = .ok (.iload_n 1, 1) := by decide +kernel
theorem dX8_take_87 : decode cX8_take 87 = .ok (.bipush 32, 2) := by decide +kernel
theorem dX8_take_89 : decode cX8_take 89 = .ok (.if_icmp .ge 19, 3) := by decide +kernel
theorem dX8_take_92 : decode cX8_take 92 = .ok (.aload_n 0, 1) := by decide +kernel
theorem dX8_take_93 : decode cX8_take 93 = .ok (.getfield 90, 3) := by decide +kernel
theorem dX8_take_96 : decode cX8_take 96 = .ok (.iconst 4, 1) := by decide +kernel
theorem dX8_take_97 : decode cX8_take 97 = .ok (.if_icmp .eq 11, 3) := by decide +kernel
theorem dX8_take_100 : decode cX8_take 100 = .ok (.aload_n 0, 1) := by decide +kernel
theorem dX8_take_101 : decode cX8_take 101 = .ok (.iload_n 1, 1) := by decide +kernel
theorem dX8_take_102 : decode cX8_take 102 = .ok (.invokevirtual 164, 3) := by decide +kernel
theorem dX8_take_105 : decode cX8_take 105 = .ok (.goto 30, 3) := by decide +kernel
theorem dX8_take_108 : decode cX8_take 108 = .ok (.aload_n 0, 1) := by decide +kernel
theorem dX8_take_109 : decode cX8_take 109 = .ok (.getfield 90, 3) := by decide +kernel
theorem dX8_take_112 : decode cX8_take 112 = .ok (.ifCond .ne 11, 3) := by decide +kernel
theorem dX8_take_115 : decode cX8_take 115 = .ok (.aload_n 0, 1) := by decide +kernel
theorem dX8_take_116 : decode cX8_take 116 = .ok (.iload_n 1, 1) := by decide +kernel
theorem dX8_take_117 : decode cX8_take 117 = .ok (.invokevirtual 167, 3) := by decide +kernel
theorem dX8_take_120 : decode cX8_take 120 = .ok (.goto 15, 3) := by decide +kernel
theorem dX8_take_123 : decode cX8_take 123 = .ok (.iload_n 1, 1) := by decide +kernel
theorem dX8_take_124 : decode cX8_take 124 = .ok (.sipush 128, 3) := by decide +kernel
theorem dX8_take_127 : decode cX8_take 127 = .ok (.if_icmp .ge 8, 3) := by decide +kernel
theorem dX8_take_130 : decode cX8_take 130 = .ok (.aload_n 0, 1) := by decide +kernel
theorem dX8_take_131 : decode cX8_take 131 = .ok (.iload_n 1, 1) := by decide +kernel
theorem dX8_take_132 : decode cX8_take 132 = .ok (.invokevirtual 170, 3) := by decide +kernel
theorem dX8_take_135 : decode cX8_take 135 = .ok (.return_, 1) := by decide +kernel
theorem dX8_sequenceByte_0 : decode cX8_sequenceByte 0 = .ok (.aload_n 0, 1) := by decide +kernel
theorem dX8_sequenceByte_1 : decode cX8_sequenceByte 1 = .ok (.getfield 90, 3) := by decide +kernel
theorem dX8_sequenceByte_4 : decode cX8_sequenceByte 4 = .ok (.iconst 1, 1) := by decide +kernel
theorem dX8_sequenceByte_5 : decode cX8_sequenceByte 5 = .ok (.if_icmp .ne 11, 3) := by decide +kernel
theorem dX8_sequenceByte_8 : decode cX8_sequenceByte 8 = .ok (.aload_n 0, 1) := by decide +kernel
theorem dX8_sequenceByte_9 : decode cX8_sequenceByte 9 = .ok (.iload_n 1, 1) := by decide +kernel
theorem dX8_sequenceByte_10 : decode cX8_sequenceByte 10 = .ok (.invokevirtual 173, 3) := by decide +kernel
theorem dX8_sequenceByte_13 : decode cX8_sequenceByte 13 = .ok (.goto 46, 3) := by decide +kernel
theorem dX8_sequenceByte_16 : decode cX8_sequenceByte 16 = .ok (.aload_n 0, 1) := by decide +kernel
theorem dX8_sequenceByte_17 : decode cX8_sequenceByte 17 = .ok (.getfield 90, 3) := by decide +kernel
theorem dX8_sequenceByte_20 : decode cX8_sequenceByte 20 = .ok (.iconst 2, 1) := by decide +kernel
theorem dX8_sequenceByte_21 : decode cX8_sequenceByte 21 = .ok (.if_icmp .ne 11, 3) := by decide +kernel
theorem dX8_sequenceByte_24 : decode cX8_sequenceByte 24 = .ok (.aload_n 0, 1) := by decide +kernel
theorem dX8_sequenceByte_25 : decode cX8_sequenceByte 25 = .ok (.iload_n 1, 1) := by decide +kernel
theorem dX8_sequenceByte_26 : decode cX8_sequenceByte 26 = .ok (.invokevirtual 176, 3) := by decide +kernel
theorem dX8_sequenceByte_29 : decode cX8_sequenceByte 29 = .ok (.goto 30, 3) := by decide +kernel
theorem dX8_sequenceByte_32 : decode cX8_sequenceByte 32 = .ok (.aload_n 0, 1) := by decide +kernel
theorem dX8_sequenceByte_33 : decode cX8_sequenceByte 33 = .ok (.getfield 90, 3) := by decide +kernel
theorem dX8_sequenceByte_36 : decode cX8_sequenceByte 36 = .ok (.iconst 4, 1) := by decide +kernel
theorem dX8_sequenceByte_37 : decode cX8_sequenceByte 37 = .ok (.if_icmp .ne 11, 3) := by decide +kernel
theorem dX8_sequenceByte_40 : decode cX8_sequenceByte 40 = .ok (.aload_n 0, 1) := by decide +kernel
theorem dX8_sequenceByte_41 : decode cX8_sequenceByte 41 = .ok (.iload_n 1, 1) := by decide +kernel
theorem dX8_sequenceByte_42 : decode cX8_sequenceByte 42 = .ok (.invokevirtual 179, 3) := by decide +kernel
theorem dX8_sequenceByte_45 : decode cX8_sequenceByte 45 = .ok (.goto 14, 3) := by decide +kernel
theorem dX8_sequenceByte_48 : decode cX8_sequenceByte 48 = .ok (.iload_n 1, 1) := by decide +kernel
theorem dX8_sequenceByte_49 : decode cX8_sequenceByte 49 = .ok (.bipush 64, 2) := by decide +kernel
theorem dX8_sequenceByte_51 : decode cX8_sequenceByte 51 = .ok (.if_icmp .lt 8, 3) := by decide +kernel
theorem dX8_sequenceByte_54 : decode cX8_sequenceByte 54 = .ok (.aload_n 0, 1) := by decide +kernel
theorem dX8_sequenceByte_55 : decode cX8_sequenceByte 55 = .ok (.iconst 0, 1) := by decide +kernel
theorem dX8_sequenceByte_56 : decode cX8_sequenceByte 56 = .ok (.putfield 90, 3) := by decide +kernel
theorem dX8_sequenceByte_59 : decode cX8_sequenceByte 59 = .ok (.return_, 1) := by decide +kernel
theorem dX8_further_0 : decode cX8_further 0 = .ok (.aload_n 0, 1) := by decide +kernel
theorem dX8_further_1 : decode cX8_further 1 = .ok (.bipush 64, 2) := by decide +kernel
theorem dX8_further_3 : decode cX8_further 3 = .ok (.aload_n 0, 1) := by decide +kernel
theorem dX8_further_4 : decode cX8_further 4 = .ok (.getfield 182, 3) := by decide +kernel
theorem dX8_further_7 : decode cX8_further 7 = .ok (.imul, 1) := by decide +kernel
theorem dX8_further_8 : decode cX8_further 8 = .ok (.iload_n 1, 1) := by decide +kernel
theorem dX8_further_9 : decode cX8_further 9 = .ok (.iadd, 1) := by decide +kernel
theorem dX8_further_10 : decode cX8_further 10 = .ok (.sipush 128, 3) := by decide +kernel
theorem dX8_further_13 : decode cX8_further 13 = .ok (.isub, 1) := by decide +kernel
theorem dX8_further_14 : decode cX8_further 14 = .ok (.putfield 182, 3) := by decide +kernel
theorem dX8_further_17 : decode cX8_further 17 = .ok (.aload_n 0, 1) := by decide +kernel
theorem dX8_further_18 : decode cX8_further 18 = .ok (.aload_n 0, 1) := by decide +kernel
theorem dX8_further_19 : decode cX8_further 19 = .ok (.getfield 185, 3) := by decide +kernel
theorem dX8_further_22 : decode cX8_further 22 = .ok (.iconst 1, 1) := by decide +kernel
theorem dX8_further_23 : decode cX8_further 23 = .ok (.iadd, 1) := by decide +kernel
theorem dX8_further_24 : decode cX8_further 24 = .ok (.putfield 185, 3) := by decide +kernel
theorem dX8_further_27 : decode cX8_further 27 = .ok (.aload_n 0, 1) := by decide +kernel
theorem dX8_further_28 : decode cX8_further 28 = .ok (.getfield 185, 3) := by decide +kernel
theorem dX8_further_31 : decode cX8_further 31 = .ok (.aload_n 0, 1) := by decide +kernel
theorem dX8_further_32 : decode cX8_further 32 = .ok (.getfield 93, 3) := by decide +kernel
theorem dX8_further_35 : decode cX8_further 35 = .ok (.if_icmp .ge 4, 3) := by decide +kernel
theorem dX8_further_38 : decode cX8_further 38 = .ok (.return_, 1) := by decide +kernel
theorem dX8_further_39 : decode cX8_further 39 = .ok (.aload_n 0, 1) := by decide +kernel
theorem dX8_further_40 : decode cX8_further 40 = .ok (.getfield 93, 3) := by decide +kernel
theorem dX8_further_43 : decode cX8_further 43 = .ok (.iconst 2, 1) := by decide +kernel
theorem dX8_further_44 : decode cX8_further 44 = .ok (.if_icmp .ne 9, 3) := by decide +kernel
theorem dX8_further_47 : decode cX8_further 47 = .ok (.sipush 128, 3) := by decide +kernel
theorem dX8_further_50 : decode cX8_further 50 = .ok (.goto 19, 3) := by decide +kernel
theorem dX8_further_53 : decode cX8_further 53 = .ok (.aload_n 0, 1) := by decide +kernel
theorem dX8_further_54 : decode cX8_further 54 = .ok (.getfield 93, 3) := by decide +kernel
theorem dX8_further_57 : decode cX8_further 57 = .ok (.iconst 3, 1) := by decide +kernel
theorem dX8_further_58 : decode cX8_further 58 = .ok (.if_icmp .ne 9, 3) := by decide +kernel
theorem dX8_further_61 : decode cX8_further 61 = .ok (.sipush 2048, 3) := by decide +kernel
theorem dX8_further_64 : decode cX8_further 64 = .ok (.goto 5, 3) := by decide +kernel
theorem dX8_further_67 : decode cX8_further 67 = .ok (.ldc 188, 2) := by decide +kernel
theorem dX8_further_69 : decode cX8_further 69 = .ok (.istore_n 2, 1) := by decide +kernel
theorem dX8_further_70 : decode cX8_further 70 = .ok (.aload_n 0, 1) := by decide +kernel
theorem dX8_further_71 : decode cX8_further 71 = .ok (.getfield 182, 3) := by decide +kernel
theorem dX8_further_74 : decode cX8_further 74 = .ok (.iload_n 2, 1) := by decide +kernel
theorem dX8_further_75 : decode cX8_further 75 = .ok (.if_icmp .lt 30, 3) := by decide +kernel
theorem dX8_further_78 : decode cX8_further 78 = .ok (.aload_n 0, 1) := by decide +kernel
theorem dX8_further_79 : decode cX8_further 79 = .ok (.getfield 182, 3) := by decide +kernel
theorem dX8_further_82 : decode cX8_further 82 = .ok (.ldc 189, 2) := by decide +kernel
theorem dX8_further_84 : decode cX8_further 84 = .ok (.if_icmp .lt 12, 3) := by decide +kernel
theorem dX8_further_87 : decode cX8_further 87 = .ok (.aload_n 0, 1) := by decide +kernel
theorem dX8_further_88 : decode cX8_further 88 = .ok (.getfield 182, 3) := by decide +kernel
theorem dX8_further_91 : decode cX8_further 91 = .ok (.ldc 190, 2) := by decide +kernel
theorem dX8_further_93 : decode cX8_further 93 = .ok (.if_icmp .le 12, 3) := by decide +kernel
theorem dX8_further_96 : decode cX8_further 96 = .ok (.aload_n 0, 1) := by decide +kernel
theorem dX8_further_97 : decode cX8_further 97 = .ok (.getfield 182, 3) := by decide +kernel
theorem dX8_further_100 : decode cX8_further 100 = .ok (.ldc 191, 2) := by decide +kernel
theorem dX8_further_102 : decode cX8_further 102 = .ok (.if_icmp .le 7, 3) := by decide +kernel
theorem dX8_further_105 : decode cX8_further 105 = .ok (.iconst 1, 1) := by decide +kernel
theorem dX8_further_106 : decode cX8_further 106 = .ok (.goto 4, 3) := by decide +kernel
theorem dX8_further_109 : decode cX8_further 109 = .ok (.iconst 0, 1) := by decide +kernel
theorem dX8_further_110 : decode cX8_further 110 = .ok (.istore_n 3, 1) := by decide +kernel
theorem dX8_further_111 : decode cX8_further 111 = .ok (.aload_n 0, 1) := by decide +kernel
theorem dX8_further_112 : decode cX8_further 112 = .ok (.iconst 0, 1) := by decide +kernel
theorem dX8_further_113 : decode cX8_further 113 = .ok (.putfield 93, 3) := by decide +kernel
theorem dX8_further_116 : decode cX8_further 116 = .ok (.aload_n 0, 1) := by decide +kernel
theorem dX8_further_117 : decode cX8_further 117 = .ok (.iload_n 3, 1) := by decide +kernel
theorem dX8_further_118 : decode cX8_further 118 = .ok (.ifCond .eq 8, 3) := by decide +kernel
theorem dX8_further_121 : decode cX8_further 121 = .ok (.ldc 160, 2) := by decide +kernel
theorem dX8_further_123 : decode cX8_further 123 = .ok (.goto 7, 3) := by decide +kernel
theorem dX8_further_126 : decode cX8_further 126 = .ok (.aload_n 0, 1) := by decide +kernel
theorem dX8_further_127 : decode cX8_further 127 = .ok (.getfield 182, 3) := by decide +kernel
theorem dX8_further_130 : decode cX8_further 130 = .ok (.invokevirtual 161, 3) := by decide +kernel
theorem dX8_further_133 : decode cX8_further 133 = .ok (.return_, 1) := by decide +kernel
theorem dX8_letterByte_0 : decode cX8_letterByte 0 = .ok (.iload_n 1, 1) := by decide +kernel
theorem dX8_letterByte_1 : decode cX8_letterByte 1 = .ok (.bipush 127, 2) := by decide +kernel
theorem dX8_letterByte_3 : decode cX8_letterByte 3 = .ok (.if_icmp .ge 11, 3) := by decide +kernel
theorem dX8_letterByte_6 : decode cX8_letterByte 6 = .ok (.aload_n 0, 1) := by decide +kernel
theorem dX8_letterByte_7 : decode cX8_letterByte 7 = .ok (.iload_n 1, 1) := by decide +kernel
theorem dX8_letterByte_8 : decode cX8_letterByte 8 = .ok (.invokevirtual 161, 3) := by decide +kernel
theorem dX8_letterByte_11 : decode cX8_letterByte 11 = .ok (.goto 97, 3) := by decide +kernel
theorem dX8_letterByte_14 : decode cX8_letterByte 14 = .ok (.iload_n 1, 1) := by decide +kernel
theorem dX8_letterByte_15 : decode cX8_letterByte 15 = .ok (.sipush 194, 3) := by decide +kernel
theorem dX8_letterByte_18 : decode cX8_letterByte 18 = .ok (.if_icmp .lt 10, 3) := by decide +kernel
theorem dX8_letterByte_21 : decode cX8_letterByte 21 = .ok (.iload_n 1, 1) := by decide +kernel
theorem dX8_letterByte_22 : decode cX8_letterByte 22 = .ok (.sipush 244, 3) := by decide +kernel
theorem dX8_letterByte_25 : decode cX8_letterByte 25 = .ok (.if_icmp .le 12, 3) := by decide +kernel
theorem dX8_letterByte_28 : decode cX8_letterByte 28 = .ok (.aload_n 0, 1) := by decide +kernel
theorem dX8_letterByte_29 : decode cX8_letterByte 29 = .ok (.ldc 160, 2) := by decide +kernel
theorem dX8_letterByte_31 : decode cX8_letterByte 31 = .ok (.invokevirtual 161, 3) := by decide +kernel
theorem dX8_letterByte_34 : decode cX8_letterByte 34 = .ok (.goto 74, 3) := by decide +kernel
theorem dX8_letterByte_37 : decode cX8_letterByte 37 = .ok (.aload_n 0, 1) := by decide +kernel
theorem dX8_letterByte_38 : decode cX8_letterByte 38 = .ok (.iload_n 1, 1) := by decide +kernel
theorem dX8_letterByte_39 : decode cX8_letterByte 39 = .ok (.sipush 224, 3) := by decide +kernel
theorem dX8_letterByte_42 : decode cX8_letterByte 42 = .ok (.if_icmp .ge 7, 3) := by decide +kernel
theorem dX8_letterByte_45 : decode cX8_letterByte 45 = .ok (.iconst 2, 1) := by decide +kernel
theorem dX8_letterByte_46 : decode cX8_letterByte 46 = .ok (.goto 15, 3) := by decide +kernel
theorem dX8_letterByte_49 : decode cX8_letterByte 49 = .ok (.iload_n 1, 1) := by decide +kernel
theorem dX8_letterByte_50 : decode cX8_letterByte 50 = .ok (.sipush 240, 3) := by decide +kernel
theorem dX8_letterByte_53 : decode cX8_letterByte 53 = .ok (.if_icmp .ge 7, 3) := by decide +kernel
theorem dX8_letterByte_56 : decode cX8_letterByte 56 = .ok (.iconst 3, 1) := by decide +kernel
theorem dX8_letterByte_57 : decode cX8_letterByte 57 = .ok (.goto 4, 3) := by decide +kernel
theorem dX8_letterByte_60 : decode cX8_letterByte 60 = .ok (.iconst 4, 1) := by decide +kernel
theorem dX8_letterByte_61 : decode cX8_letterByte 61 = .ok (.putfield 93, 3) := by decide +kernel
theorem dX8_letterByte_64 : decode cX8_letterByte 64 = .ok (.aload_n 0, 1) := by decide +kernel
theorem dX8_letterByte_65 : decode cX8_letterByte 65 = .ok (.iconst 1, 1) := by decide +kernel
theorem dX8_letterByte_66 : decode cX8_letterByte 66 = .ok (.putfield 185, 3) := by decide +kernel
theorem dX8_letterByte_69 : decode cX8_letterByte 69 = .ok (.aload_n 0, 1) := by decide +kernel
theorem dX8_letterByte_70 : decode cX8_letterByte 70 = .ok (.iload_n 1, 1) := by decide +kernel
theorem dX8_letterByte_71 : decode cX8_letterByte 71 = .ok (.sipush 224, 3) := by decide +kernel
theorem dX8_letterByte_74 : decode cX8_letterByte 74 = .ok (.if_icmp .ge 11, 3) := by decide +kernel
theorem dX8_letterByte_77 : decode cX8_letterByte 77 = .ok (.iload_n 1, 1) := by decide +kernel
theorem dX8_letterByte_78 : decode cX8_letterByte 78 = .ok (.sipush 192, 3) := by decide +kernel
theorem dX8_letterByte_81 : decode cX8_letterByte 81 = .ok (.isub, 1) := by decide +kernel
theorem dX8_letterByte_82 : decode cX8_letterByte 82 = .ok (.goto 23, 3) := by decide +kernel
theorem dX8_letterByte_85 : decode cX8_letterByte 85 = .ok (.iload_n 1, 1) := by decide +kernel
theorem dX8_letterByte_86 : decode cX8_letterByte 86 = .ok (.sipush 240, 3) := by decide +kernel
theorem dX8_letterByte_89 : decode cX8_letterByte 89 = .ok (.if_icmp .ge 11, 3) := by decide +kernel
theorem dX8_letterByte_92 : decode cX8_letterByte 92 = .ok (.iload_n 1, 1) := by decide +kernel
theorem dX8_letterByte_93 : decode cX8_letterByte 93 = .ok (.sipush 224, 3) := by decide +kernel
theorem dX8_letterByte_96 : decode cX8_letterByte 96 = .ok (.isub, 1) := by decide +kernel
theorem dX8_letterByte_97 : decode cX8_letterByte 97 = .ok (.goto 8, 3) := by decide +kernel
theorem dX8_letterByte_100 : decode cX8_letterByte 100 = .ok (.iload_n 1, 1) := by decide +kernel
theorem dX8_letterByte_101 : decode cX8_letterByte 101 = .ok (.sipush 240, 3) := by decide +kernel
theorem dX8_letterByte_104 : decode cX8_letterByte 104 = .ok (.isub, 1) := by decide +kernel
theorem dX8_letterByte_105 : decode cX8_letterByte 105 = .ok (.putfield 182, 3) := by decide +kernel
theorem dX8_letterByte_108 : decode cX8_letterByte 108 = .ok (.return_, 1) := by decide +kernel
theorem dX8_control_0 : decode cX8_control 0 = .ok (.iload_n 1, 1) := by decide +kernel
theorem dX8_control_1 : decode cX8_control 1 = .ok (.bipush 7, 2) := by decide +kernel
theorem dX8_control_3 : decode cX8_control 3 = .ok (.if_icmp .ne 13, 3) := by decide +kernel
theorem dX8_control_6 : decode cX8_control 6 = .ok (.aload_n 0, 1) := by decide +kernel
theorem dX8_control_7 : decode cX8_control 7 = .ok (.aload_n 0, 1) := by decide +kernel
theorem dX8_control_8 : decode cX8_control 8 = .ok (.getfield 81, 3) := by decide +kernel
theorem dX8_control_11 : decode cX8_control 11 = .ok (.iconst 1, 1) := by decide +kernel
theorem dX8_control_12 : decode cX8_control 12 = .ok (.iadd, 1) := by decide +kernel
theorem dX8_control_13 : decode cX8_control 13 = .ok (.putfield 81, 3) := by decide +kernel
theorem dX8_control_16 : decode cX8_control 16 = .ok (.iload_n 1, 1) := by decide +kernel
theorem dX8_control_17 : decode cX8_control 17 = .ok (.bipush 8, 2) := by decide +kernel
theorem dX8_control_19 : decode cX8_control 19 = .ok (.if_icmp .ne 28, 3) := by decide +kernel
theorem dX8_control_22 : decode cX8_control 22 = .ok (.aload_n 0, 1) := by decide +kernel
theorem dX8_control_23 : decode cX8_control 23 = .ok (.aload_n 0, 1) := by decide +kernel
theorem dX8_control_24 : decode cX8_control 24 = .ok (.getfield 96, 3) := by decide +kernel
theorem dX8_control_27 : decode cX8_control 27 = .ok (.aload_n 0, 1) := by decide +kernel
theorem dX8_control_28 : decode cX8_control 28 = .ok (.getfield 99, 3) := by decide +kernel
theorem dX8_control_31 : decode cX8_control 31 = .ok (.ifCond .le 12, 3) := by decide +kernel
end
section
theorem dX8_control_34 : decode cX8_control 34 = .ok (.aload_n 0, 1) := by decide +kernel
theorem dX8_control_35 : decode cX8_control 35 = .ok (.getfield 99, 3) := by decide +kernel
theorem dX8_control_38 : decode cX8_control 38 = .ok (.iconst 1, 1) := by decide +kernel
theorem dX8_control_39 : decode cX8_control 39 = .ok (.isub, 1) := by decide +kernel
theorem dX8_control_40 : decode cX8_control 40 = .ok (.goto 4, 3) := by decide +kernel
theorem dX8_control_43 : decode cX8_control 43 = .ok (.iconst 0, 1) := by decide +kernel
theorem dX8_control_44 : decode cX8_control 44 = .ok (.invokevirtual 52, 3) := by decide +kernel
theorem dX8_control_47 : decode cX8_control 47 = .ok (.iload_n 1, 1) := by decide +kernel
theorem dX8_control_48 : decode cX8_control 48 = .ok (.bipush 9, 2) := by decide +kernel
theorem dX8_control_50 : decode cX8_control 50 = .ok (.if_icmp .ne 67, 3) := by decide +kernel
theorem dX8_control_53 : decode cX8_control 53 = .ok (.aload_n 0, 1) := by decide +kernel
theorem dX8_control_54 : decode cX8_control 54 = .ok (.getfield 99, 3) := by decide +kernel
theorem dX8_control_57 : decode cX8_control 57 = .ok (.istore_n 2, 1) := by decide +kernel
theorem dX8_control_58 : decode cX8_control 58 = .ok (.iconst 0, 1) := by decide +kernel
theorem dX8_control_59 : decode cX8_control 59 = .ok (.istore_n 3, 1) := by decide +kernel
theorem dX8_control_60 : decode cX8_control 60 = .ok (.aload_n 0, 1) := by decide +kernel
theorem dX8_control_61 : decode cX8_control 61 = .ok (.getfield 99, 3) := by decide +kernel
theorem dX8_control_64 : decode cX8_control 64 = .ok (.iconst 1, 1) := by decide +kernel
theorem dX8_control_65 : decode cX8_control 65 = .ok (.iadd, 1) := by decide +kernel
theorem dX8_control_66 : decode cX8_control 66 = .ok (.istore 4, 2) := by decide +kernel
theorem dX8_control_68 : decode cX8_control 68 = .ok (.iload 4, 2) := by decide +kernel
theorem dX8_control_70 : decode cX8_control 70 = .ok (.bipush 12, 2) := by decide +kernel
theorem dX8_control_72 : decode cX8_control 72 = .ok (.if_icmp .ge 36, 3) := by decide +kernel
theorem dX8_control_75 : decode cX8_control 75 = .ok (.iload_n 3, 1) := by decide +kernel
theorem dX8_control_76 : decode cX8_control 76 = .ok (.ifCond .ne 6, 3) := by decide +kernel
theorem dX8_control_79 : decode cX8_control 79 = .ok (.iload 4, 2) := by decide +kernel
theorem dX8_control_81 : decode cX8_control 81 = .ok (.istore_n 2, 1) := by decide +kernel
theorem dX8_control_82 : decode cX8_control 82 = .ok (.iload_n 3, 1) := by decide +kernel
theorem dX8_control_83 : decode cX8_control 83 = .ok (.ifCond .ne 13, 3) := by decide +kernel
theorem dX8_control_86 : decode cX8_control 86 = .ok (.aload_n 0, 1) := by decide +kernel
theorem dX8_control_87 : decode cX8_control 87 = .ok (.getfield 22, 3) := by decide +kernel
theorem dX8_control_90 : decode cX8_control 90 = .ok (.iload 4, 2) := by decide +kernel
theorem dX8_control_92 : decode cX8_control 92 = .ok (.baload, 1) := by decide +kernel
theorem dX8_control_93 : decode cX8_control 93 = .ok (.ifCond .eq 7, 3) := by decide +kernel
theorem dX8_control_96 : decode cX8_control 96 = .ok (.iconst 1, 1) := by decide +kernel
theorem dX8_control_97 : decode cX8_control 97 = .ok (.goto 4, 3) := by decide +kernel
theorem dX8_control_100 : decode cX8_control 100 = .ok (.iconst 0, 1) := by decide +kernel
theorem dX8_control_101 : decode cX8_control 101 = .ok (.istore_n 3, 1) := by decide +kernel
theorem dX8_control_102 : decode cX8_control 102 = .ok (.iinc 4 1, 3) := by decide +kernel
theorem dX8_control_105 : decode cX8_control 105 = .ok (.goto (-37), 3) := by decide +kernel
theorem dX8_control_108 : decode cX8_control 108 = .ok (.aload_n 0, 1) := by decide +kernel
theorem dX8_control_109 : decode cX8_control 109 = .ok (.aload_n 0, 1) := by decide +kernel
theorem dX8_control_110 : decode cX8_control 110 = .ok (.getfield 96, 3) := by decide +kernel
theorem dX8_control_113 : decode cX8_control 113 = .ok (.iload_n 2, 1) := by decide +kernel
theorem dX8_control_114 : decode cX8_control 114 = .ok (.invokevirtual 52, 3) := by decide +kernel
theorem dX8_control_117 : decode cX8_control 117 = .ok (.iload_n 1, 1) := by decide +kernel
theorem dX8_control_118 : decode cX8_control 118 = .ok (.bipush 10, 2) := by decide +kernel
theorem dX8_control_120 : decode cX8_control 120 = .ok (.if_icmp .lt 13, 3) := by decide +kernel
theorem dX8_control_123 : decode cX8_control 123 = .ok (.iload_n 1, 1) := by decide +kernel
theorem dX8_control_124 : decode cX8_control 124 = .ok (.bipush 12, 2) := by decide +kernel
theorem dX8_control_126 : decode cX8_control 126 = .ok (.if_icmp .gt 7, 3) := by decide +kernel
theorem dX8_control_129 : decode cX8_control 129 = .ok (.aload_n 0, 1) := by decide +kernel
theorem dX8_control_130 : decode cX8_control 130 = .ok (.invokevirtual 148, 3) := by decide +kernel
theorem dX8_control_133 : decode cX8_control 133 = .ok (.iload_n 1, 1) := by decide +kernel
theorem dX8_control_134 : decode cX8_control 134 = .ok (.bipush 13, 2) := by decide +kernel
theorem dX8_control_136 : decode cX8_control 136 = .ok (.if_icmp .ne 12, 3) := by decide +kernel
theorem dX8_control_139 : decode cX8_control 139 = .ok (.aload_n 0, 1) := by decide +kernel
theorem dX8_control_140 : decode cX8_control 140 = .ok (.aload_n 0, 1) := by decide +kernel
theorem dX8_control_141 : decode cX8_control 141 = .ok (.getfield 96, 3) := by decide +kernel
theorem dX8_control_144 : decode cX8_control 144 = .ok (.iconst 0, 1) := by decide +kernel
theorem dX8_control_145 : decode cX8_control 145 = .ok (.invokevirtual 52, 3) := by decide +kernel
theorem dX8_control_148 : decode cX8_control 148 = .ok (.return_, 1) := by decide +kernel
theorem dX8_titleByte_0 : decode cX8_titleByte 0 = .ok (.iload_n 1, 1) := by decide +kernel
theorem dX8_titleByte_1 : decode cX8_titleByte 1 = .ok (.bipush 7, 2) := by decide +kernel
theorem dX8_titleByte_3 : decode cX8_titleByte 3 = .ok (.if_icmp .ne 47, 3) := by decide +kernel
theorem dX8_titleByte_6 : decode cX8_titleByte 6 = .ok (.aload_n 0, 1) := by decide +kernel
theorem dX8_titleByte_7 : decode cX8_titleByte 7 = .ok (.aload_n 0, 1) := by decide +kernel
theorem dX8_titleByte_8 : decode cX8_titleByte 8 = .ok (.getfield 192, 3) := by decide +kernel
theorem dX8_titleByte_11 : decode cX8_titleByte 11 = .ok (.putfield 87, 3) := by decide +kernel
theorem dX8_titleByte_14 : decode cX8_titleByte 14 = .ok (.iconst 0, 1) := by decide +kernel
theorem dX8_titleByte_15 : decode cX8_titleByte 15 = .ok (.istore_n 2, 1) := by decide +kernel
theorem dX8_titleByte_16 : decode cX8_titleByte 16 = .ok (.iload_n 2, 1) := by decide +kernel
theorem dX8_titleByte_17 : decode cX8_titleByte 17 = .ok (.aload_n 0, 1) := by decide +kernel
theorem dX8_titleByte_18 : decode cX8_titleByte 18 = .ok (.getfield 192, 3) := by decide +kernel
theorem dX8_titleByte_21 : decode cX8_titleByte 21 = .ok (.if_icmp .ge 21, 3) := by decide +kernel
theorem dX8_titleByte_24 : decode cX8_titleByte 24 = .ok (.aload_n 0, 1) := by decide +kernel
theorem dX8_titleByte_25 : decode cX8_titleByte 25 = .ok (.getfield 29, 3) := by decide +kernel
theorem dX8_titleByte_28 : decode cX8_titleByte 28 = .ok (.iload_n 2, 1) := by decide +kernel
theorem dX8_titleByte_29 : decode cX8_titleByte 29 = .ok (.aload_n 0, 1) := by decide +kernel
theorem dX8_titleByte_30 : decode cX8_titleByte 30 = .ok (.getfield 32, 3) := by decide +kernel
theorem dX8_titleByte_33 : decode cX8_titleByte 33 = .ok (.iload_n 2, 1) := by decide +kernel
theorem dX8_titleByte_34 : decode cX8_titleByte 34 = .ok (.iaload, 1) := by decide +kernel
theorem dX8_titleByte_35 : decode cX8_titleByte 35 = .ok (.iastore, 1) := by decide +kernel
theorem dX8_titleByte_36 : decode cX8_titleByte 36 = .ok (.iinc 2 1, 3) := by decide +kernel
theorem dX8_titleByte_39 : decode cX8_titleByte 39 = .ok (.goto (-23), 3) := by decide +kernel
theorem dX8_titleByte_42 : decode cX8_titleByte 42 = .ok (.aload_n 0, 1) := by decide +kernel
theorem dX8_titleByte_43 : decode cX8_titleByte 43 = .ok (.iconst 0, 1) := by decide +kernel
theorem dX8_titleByte_44 : decode cX8_titleByte 44 = .ok (.putfield 90, 3) := by decide +kernel
theorem dX8_titleByte_47 : decode cX8_titleByte 47 = .ok (.goto 38, 3) := by decide +kernel
theorem dX8_titleByte_50 : decode cX8_titleByte 50 = .ok (.iload_n 1, 1) := by decide +kernel
theorem dX8_titleByte_51 : decode cX8_titleByte 51 = .ok (.bipush 32, 2) := by decide +kernel
theorem dX8_titleByte_53 : decode cX8_titleByte 53 = .ok (.if_icmp .lt 32, 3) := by decide +kernel
theorem dX8_titleByte_56 : decode cX8_titleByte 56 = .ok (.aload_n 0, 1) := by decide +kernel
theorem dX8_titleByte_57 : decode cX8_titleByte 57 = .ok (.getfield 192, 3) := by decide +kernel
theorem dX8_titleByte_60 : decode cX8_titleByte 60 = .ok (.bipush 16, 2) := by decide +kernel
theorem dX8_titleByte_62 : decode cX8_titleByte 62 = .ok (.if_icmp .ge 23, 3) := by decide +kernel
theorem dX8_titleByte_65 : decode cX8_titleByte 65 = .ok (.aload_n 0, 1) := by decide +kernel
theorem dX8_titleByte_66 : decode cX8_titleByte 66 = .ok (.getfield 32, 3) := by decide +kernel
theorem dX8_titleByte_69 : decode cX8_titleByte 69 = .ok (.aload_n 0, 1) := by decide +kernel
theorem dX8_titleByte_70 : decode cX8_titleByte 70 = .ok (.getfield 192, 3) := by decide +kernel
theorem dX8_titleByte_73 : decode cX8_titleByte 73 = .ok (.iload_n 1, 1) := by decide +kernel
theorem dX8_titleByte_74 : decode cX8_titleByte 74 = .ok (.iastore, 1) := by decide +kernel
theorem dX8_titleByte_75 : decode cX8_titleByte 75 = .ok (.aload_n 0, 1) := by decide +kernel
theorem dX8_titleByte_76 : decode cX8_titleByte 76 = .ok (.aload_n 0, 1) := by decide +kernel
theorem dX8_titleByte_77 : decode cX8_titleByte 77 = .ok (.getfield 192, 3) := by decide +kernel
theorem dX8_titleByte_80 : decode cX8_titleByte 80 = .ok (.iconst 1, 1) := by decide +kernel
theorem dX8_titleByte_81 : decode cX8_titleByte 81 = .ok (.iadd, 1) := by decide +kernel
theorem dX8_titleByte_82 : decode cX8_titleByte 82 = .ok (.putfield 192, 3) := by decide +kernel
theorem dX8_titleByte_85 : decode cX8_titleByte 85 = .ok (.return_, 1) := by decide +kernel
theorem dX8_escape_0 : decode cX8_escape 0 = .ok (.iload_n 1, 1) := by decide +kernel
theorem dX8_escape_1 : decode cX8_escape 1 = .ok (.bipush 91, 2) := by decide +kernel
theorem dX8_escape_3 : decode cX8_escape 3 = .ok (.if_icmp .ne 40, 3) := by decide +kernel
theorem dX8_escape_6 : decode cX8_escape 6 = .ok (.aload_n 0, 1) := by decide +kernel
theorem dX8_escape_7 : decode cX8_escape 7 = .ok (.iconst 2, 1) := by decide +kernel
theorem dX8_escape_8 : decode cX8_escape 8 = .ok (.putfield 90, 3) := by decide +kernel
theorem dX8_escape_11 : decode cX8_escape 11 = .ok (.aload_n 0, 1) := by decide +kernel
theorem dX8_escape_12 : decode cX8_escape 12 = .ok (.iconst 0, 1) := by decide +kernel
theorem dX8_escape_13 : decode cX8_escape 13 = .ok (.putfield 195, 3) := by decide +kernel
theorem dX8_escape_16 : decode cX8_escape 16 = .ok (.aload_n 0, 1) := by decide +kernel
theorem dX8_escape_17 : decode cX8_escape 17 = .ok (.iconst 0, 1) := by decide +kernel
theorem dX8_escape_18 : decode cX8_escape 18 = .ok (.putfield 198, 3) := by decide +kernel
theorem dX8_escape_21 : decode cX8_escape 21 = .ok (.iconst 0, 1) := by decide +kernel
theorem dX8_escape_22 : decode cX8_escape 22 = .ok (.istore_n 2, 1) := by decide +kernel
theorem dX8_escape_23 : decode cX8_escape 23 = .ok (.iload_n 2, 1) := by decide +kernel
theorem dX8_escape_24 : decode cX8_escape 24 = .ok (.bipush 6, 2) := by decide +kernel
theorem dX8_escape_26 : decode cX8_escape 26 = .ok (.if_icmp .ge 16, 3) := by decide +kernel
theorem dX8_escape_29 : decode cX8_escape 29 = .ok (.aload_n 0, 1) := by decide +kernel
theorem dX8_escape_30 : decode cX8_escape 30 = .ok (.getfield 35, 3) := by decide +kernel
theorem dX8_escape_33 : decode cX8_escape 33 = .ok (.iload_n 2, 1) := by decide +kernel
theorem dX8_escape_34 : decode cX8_escape 34 = .ok (.iconst 0, 1) := by decide +kernel
theorem dX8_escape_35 : decode cX8_escape 35 = .ok (.iastore, 1) := by decide +kernel
theorem dX8_escape_36 : decode cX8_escape 36 = .ok (.iinc 2 1, 3) := by decide +kernel
theorem dX8_escape_39 : decode cX8_escape 39 = .ok (.goto (-16), 3) := by decide +kernel
theorem dX8_escape_42 : decode cX8_escape 42 = .ok (.return_, 1) := by decide +kernel
theorem dX8_escape_43 : decode cX8_escape 43 = .ok (.iload_n 1, 1) := by decide +kernel
theorem dX8_escape_44 : decode cX8_escape 44 = .ok (.bipush 93, 2) := by decide +kernel
theorem dX8_escape_46 : decode cX8_escape 46 = .ok (.if_icmp .ne 14, 3) := by decide +kernel
theorem dX8_escape_49 : decode cX8_escape 49 = .ok (.aload_n 0, 1) := by decide +kernel
theorem dX8_escape_50 : decode cX8_escape 50 = .ok (.iconst 4, 1) := by decide +kernel
theorem dX8_escape_51 : decode cX8_escape 51 = .ok (.putfield 90, 3) := by decide +kernel
theorem dX8_escape_54 : decode cX8_escape 54 = .ok (.aload_n 0, 1) := by decide +kernel
theorem dX8_escape_55 : decode cX8_escape 55 = .ok (.iconst 0, 1) := by decide +kernel
theorem dX8_escape_56 : decode cX8_escape 56 = .ok (.putfield 192, 3) := by decide +kernel
theorem dX8_escape_59 : decode cX8_escape 59 = .ok (.return_, 1) := by decide +kernel
theorem dX8_escape_60 : decode cX8_escape 60 = .ok (.aload_n 0, 1) := by decide +kernel
theorem dX8_escape_61 : decode cX8_escape 61 = .ok (.iload_n 1, 1) := by decide +kernel
theorem dX8_escape_62 : decode cX8_escape 62 = .ok (.bipush 48, 2) := by decide +kernel
theorem dX8_escape_64 : decode cX8_escape 64 = .ok (.if_icmp .ge 7, 3) := by decide +kernel
theorem dX8_escape_67 : decode cX8_escape 67 = .ok (.iconst 3, 1) := by decide +kernel
theorem dX8_escape_68 : decode cX8_escape 68 = .ok (.goto 4, 3) := by decide +kernel
theorem dX8_escape_71 : decode cX8_escape 71 = .ok (.iconst 0, 1) := by decide +kernel
theorem dX8_escape_72 : decode cX8_escape 72 = .ok (.putfield 90, 3) := by decide +kernel
theorem dX8_escape_75 : decode cX8_escape 75 = .ok (.iload_n 1, 1) := by decide +kernel
theorem dX8_escape_76 : decode cX8_escape 76 = .ok (.bipush 55, 2) := by decide +kernel
theorem dX8_escape_78 : decode cX8_escape 78 = .ok (.if_icmp .ne 7, 3) := by decide +kernel
theorem dX8_escape_81 : decode cX8_escape 81 = .ok (.aload_n 0, 1) := by decide +kernel
theorem dX8_escape_82 : decode cX8_escape 82 = .ok (.invokevirtual 75, 3) := by decide +kernel
theorem dX8_escape_85 : decode cX8_escape 85 = .ok (.iload_n 1, 1) := by decide +kernel
theorem dX8_escape_86 : decode cX8_escape 86 = .ok (.bipush 56, 2) := by decide +kernel
theorem dX8_escape_88 : decode cX8_escape 88 = .ok (.if_icmp .ne 7, 3) := by decide +kernel
theorem dX8_escape_91 : decode cX8_escape 91 = .ok (.aload_n 0, 1) := by decide +kernel
theorem dX8_escape_92 : decode cX8_escape 92 = .ok (.invokevirtual 201, 3) := by decide +kernel
theorem dX8_escape_95 : decode cX8_escape 95 = .ok (.iload_n 1, 1) := by decide +kernel
theorem dX8_escape_96 : decode cX8_escape 96 = .ok (.bipush 68, 2) := by decide +kernel
theorem dX8_escape_98 : decode cX8_escape 98 = .ok (.if_icmp .ne 7, 3) := by decide +kernel
theorem dX8_escape_101 : decode cX8_escape 101 = .ok (.aload_n 0, 1) := by decide +kernel
theorem dX8_escape_102 : decode cX8_escape 102 = .ok (.invokevirtual 148, 3) := by decide +kernel
theorem dX8_escape_105 : decode cX8_escape 105 = .ok (.iload_n 1, 1) := by decide +kernel
theorem dX8_escape_106 : decode cX8_escape 106 = .ok (.bipush 69, 2) := by decide +kernel
theorem dX8_escape_108 : decode cX8_escape 108 = .ok (.if_icmp .ne 16, 3) := by decide +kernel
theorem dX8_escape_111 : decode cX8_escape 111 = .ok (.aload_n 0, 1) := by decide +kernel
theorem dX8_escape_112 : decode cX8_escape 112 = .ok (.aload_n 0, 1) := by decide +kernel
theorem dX8_escape_113 : decode cX8_escape 113 = .ok (.getfield 96, 3) := by decide +kernel
theorem dX8_escape_116 : decode cX8_escape 116 = .ok (.iconst 0, 1) := by decide +kernel
theorem dX8_escape_117 : decode cX8_escape 117 = .ok (.invokevirtual 52, 3) := by decide +kernel
theorem dX8_escape_120 : decode cX8_escape 120 = .ok (.aload_n 0, 1) := by decide +kernel
theorem dX8_escape_121 : decode cX8_escape 121 = .ok (.invokevirtual 148, 3) := by decide +kernel
theorem dX8_escape_124 : decode cX8_escape 124 = .ok (.iload_n 1, 1) := by decide +kernel
theorem dX8_escape_125 : decode cX8_escape 125 = .ok (.bipush 72, 2) := by decide +kernel
theorem dX8_escape_127 : decode cX8_escape 127 = .ok (.if_icmp .ne 13, 3) := by decide +kernel
theorem dX8_escape_130 : decode cX8_escape 130 = .ok (.aload_n 0, 1) := by decide +kernel
theorem dX8_escape_131 : decode cX8_escape 131 = .ok (.getfield 22, 3) := by decide +kernel
theorem dX8_escape_134 : decode cX8_escape 134 = .ok (.aload_n 0, 1) := by decide +kernel
theorem dX8_escape_135 : decode cX8_escape 135 = .ok (.getfield 99, 3) := by decide +kernel
theorem dX8_escape_138 : decode cX8_escape 138 = .ok (.iconst 1, 1) := by decide +kernel
theorem dX8_escape_139 : decode cX8_escape 139 = .ok (.bastore, 1) := by decide +kernel
theorem dX8_escape_140 : decode cX8_escape 140 = .ok (.iload_n 1, 1) := by decide +kernel
theorem dX8_escape_141 : decode cX8_escape 141 = .ok (.bipush 77, 2) := by decide +kernel
theorem dX8_escape_143 : decode cX8_escape 143 = .ok (.if_icmp .ne 7, 3) := by decide +kernel
theorem dX8_escape_146 : decode cX8_escape 146 = .ok (.aload_n 0, 1) := by decide +kernel
theorem dX8_escape_147 : decode cX8_escape 147 = .ok (.invokevirtual 204, 3) := by decide +kernel
theorem dX8_escape_150 : decode cX8_escape 150 = .ok (.iload_n 1, 1) := by decide +kernel
theorem dX8_escape_151 : decode cX8_escape 151 = .ok (.bipush 99, 2) := by decide +kernel
theorem dX8_escape_153 : decode cX8_escape 153 = .ok (.if_icmp .ne 7, 3) := by decide +kernel
theorem dX8_escape_156 : decode cX8_escape 156 = .ok (.aload_n 0, 1) := by decide +kernel
theorem dX8_escape_157 : decode cX8_escape 157 = .ok (.invokevirtual 38, 3) := by decide +kernel
theorem dX8_escape_160 : decode cX8_escape 160 = .ok (.return_, 1) := by decide +kernel
theorem dX8_sequence_0 : decode cX8_sequence 0 = .ok (.iload_n 1, 1) := by decide +kernel
theorem dX8_sequence_1 : decode cX8_sequence 1 = .ok (.bipush 48, 2) := by decide +kernel
theorem dX8_sequence_3 : decode cX8_sequence 3 = .ok (.if_icmp .lt 78, 3) := by decide +kernel
theorem dX8_sequence_6 : decode cX8_sequence 6 = .ok (.iload_n 1, 1) := by decide +kernel
theorem dX8_sequence_7 : decode cX8_sequence 7 = .ok (.bipush 57, 2) := by decide +kernel
theorem dX8_sequence_9 : decode cX8_sequence 9 = .ok (.if_icmp .gt 72, 3) := by decide +kernel
theorem dX8_sequence_12 : decode cX8_sequence 12 = .ok (.aload_n 0, 1) := by decide +kernel
theorem dX8_sequence_13 : decode cX8_sequence 13 = .ok (.getfield 195, 3) := by decide +kernel
theorem dX8_sequence_16 : decode cX8_sequence 16 = .ok (.ifCond .ne 8, 3) := by decide +kernel
theorem dX8_sequence_19 : decode cX8_sequence 19 = .ok (.aload_n 0, 1) := by decide +kernel
theorem dX8_sequence_20 : decode cX8_sequence 20 = .ok (.iconst 1, 1) := by decide +kernel
theorem dX8_sequence_21 : decode cX8_sequence 21 = .ok (.putfield 195, 3) := by decide +kernel
theorem dX8_sequence_24 : decode cX8_sequence 24 = .ok (.aload_n 0, 1) := by decide +kernel
theorem dX8_sequence_25 : decode cX8_sequence 25 = .ok (.getfield 195, 3) := by decide +kernel
theorem dX8_sequence_28 : decode cX8_sequence 28 = .ok (.bipush 6, 2) := by decide +kernel
theorem dX8_sequence_30 : decode cX8_sequence 30 = .ok (.if_icmp .gt 183, 3) := by decide +kernel
theorem dX8_sequence_33 : decode cX8_sequence 33 = .ok (.bipush 10, 2) := by decide +kernel
theorem dX8_sequence_35 : decode cX8_sequence 35 = .ok (.aload_n 0, 1) := by decide +kernel
theorem dX8_sequence_36 : decode cX8_sequence 36 = .ok (.getfield 35, 3) := by decide +kernel
theorem dX8_sequence_39 : decode cX8_sequence 39 = .ok (.aload_n 0, 1) := by decide +kernel
theorem dX8_sequence_40 : decode cX8_sequence 40 = .ok (.getfield 195, 3) := by decide +kernel
theorem dX8_sequence_43 : decode cX8_sequence 43 = .ok (.iconst 1, 1) := by decide +kernel
theorem dX8_sequence_44 : decode cX8_sequence 44 = .ok (.isub, 1) := by decide +kernel
theorem dX8_sequence_45 : decode cX8_sequence 45 = .ok (.iaload, 1) := by decide +kernel
theorem dX8_sequence_46 : decode cX8_sequence 46 = .ok (.imul, 1) := by decide +kernel
theorem dX8_sequence_47 : decode cX8_sequence 47 = .ok (.iload_n 1, 1) := by decide +kernel
theorem dX8_sequence_48 : decode cX8_sequence 48 = .ok (.iadd, 1) := by decide +kernel
theorem dX8_sequence_49 : decode cX8_sequence 49 = .ok (.bipush 48, 2) := by decide +kernel
theorem dX8_sequence_51 : decode cX8_sequence 51 = .ok (.isub, 1) := by decide +kernel
theorem dX8_sequence_52 : decode cX8_sequence 52 = .ok (.istore_n 2, 1) := by decide +kernel
theorem dX8_sequence_53 : decode cX8_sequence 53 = .ok (.aload_n 0, 1) := by decide +kernel
theorem dX8_sequence_54 : decode cX8_sequence 54 = .ok (.getfield 35, 3) := by decide +kernel
theorem dX8_sequence_57 : decode cX8_sequence 57 = .ok (.aload_n 0, 1) := by decide +kernel
theorem dX8_sequence_58 : decode cX8_sequence 58 = .ok (.getfield 195, 3) := by decide +kernel
theorem dX8_sequence_61 : decode cX8_sequence 61 = .ok (.iconst 1, 1) := by decide +kernel
theorem dX8_sequence_62 : decode cX8_sequence 62 = .ok (.isub, 1) := by decide +kernel
theorem dX8_sequence_63 : decode cX8_sequence 63 = .ok (.iload_n 2, 1) := by decide +kernel
theorem dX8_sequence_64 : decode cX8_sequence 64 = .ok (.sipush 9999, 3) := by decide +kernel
theorem dX8_sequence_67 : decode cX8_sequence 67 = .ok (.if_icmp .le 9, 3) := by decide +kernel
theorem dX8_sequence_70 : decode cX8_sequence 70 = .ok (.sipush 9999, 3) := by decide +kernel
theorem dX8_sequence_73 : decode cX8_sequence 73 = .ok (.goto 4, 3) := by decide +kernel
theorem dX8_sequence_76 : decode cX8_sequence 76 = .ok (.iload_n 2, 1) := by decide +kernel
theorem dX8_sequence_77 : decode cX8_sequence 77 = .ok (.iastore, 1) := by decide +kernel
theorem dX8_sequence_78 : decode cX8_sequence 78 = .ok (.goto 135, 3) := by decide +kernel
theorem dX8_sequence_81 : decode cX8_sequence 81 = .ok (.iload_n 1, 1) := by decide +kernel
theorem dX8_sequence_82 : decode cX8_sequence 82 = .ok (.bipush 59, 2) := by decide +kernel
theorem dX8_sequence_84 : decode cX8_sequence 84 = .ok (.if_icmp .ne 43, 3) := by decide +kernel
theorem dX8_sequence_87 : decode cX8_sequence 87 = .ok (.aload_n 0, 1) := by decide +kernel
theorem dX8_sequence_88 : decode cX8_sequence 88 = .ok (.aload_n 0, 1) := by decide +kernel
theorem dX8_sequence_89 : decode cX8_sequence 89 = .ok (.getfield 195, 3) := by decide +kernel
theorem dX8_sequence_92 : decode cX8_sequence 92 = .ok (.ifCond .ne 7, 3) := by decide +kernel
theorem dX8_sequence_95 : decode cX8_sequence 95 = .ok (.iconst 2, 1) := by decide +kernel
theorem dX8_sequence_96 : decode cX8_sequence 96 = .ok (.goto 25, 3) := by decide +kernel
theorem dX8_sequence_99 : decode cX8_sequence 99 = .ok (.aload_n 0, 1) := by decide +kernel
theorem dX8_sequence_100 : decode cX8_sequence 100 = .ok (.getfield 195, 3) := by decide +kernel
theorem dX8_sequence_103 : decode cX8_sequence 103 = .ok (.bipush 100, 2) := by decide +kernel
theorem dX8_sequence_105 : decode cX8_sequence 105 = .ok (.if_icmp .ge 12, 3) := by decide +kernel
theorem dX8_sequence_108 : decode cX8_sequence 108 = .ok (.aload_n 0, 1) := by decide +kernel
theorem dX8_sequence_109 : decode cX8_sequence 109 = .ok (.getfield 195, 3) := by decide +kernel
theorem dX8_sequence_112 : decode cX8_sequence 112 = .ok (.iconst 1, 1) := by decide +kernel
theorem dX8_sequence_113 : decode cX8_sequence 113 = .ok (.iadd, 1) := by decide +kernel
theorem dX8_sequence_114 : decode cX8_sequence 114 = .ok (.goto 7, 3) := by decide +kernel
theorem dX8_sequence_117 : decode cX8_sequence 117 = .ok (.aload_n 0, 1) := by decide +kernel
theorem dX8_sequence_118 : decode cX8_sequence 118 = .ok (.getfield 195, 3) := by decide +kernel
theorem dX8_sequence_121 : decode cX8_sequence 121 = .ok (.putfield 195, 3) := by decide +kernel
theorem dX8_sequence_124 : decode cX8_sequence 124 = .ok (.goto 89, 3) := by decide +kernel
theorem dX8_sequence_127 : decode cX8_sequence 127 = .ok (.iload_n 1, 1) := by decide +kernel
theorem dX8_sequence_128 : decode cX8_sequence 128 = .ok (.bipush 63, 2) := by decide +kernel
theorem dX8_sequence_130 : decode cX8_sequence 130 = .ok (.if_icmp .ne 25, 3) := by decide +kernel
theorem dX8_sequence_133 : decode cX8_sequence 133 = .ok (.aload_n 0, 1) := by decide +kernel
theorem dX8_sequence_134 : decode cX8_sequence 134 = .ok (.getfield 195, 3) := by decide +kernel
theorem dX8_sequence_137 : decode cX8_sequence 137 = .ok (.ifCond .ne 18, 3) := by decide +kernel
theorem dX8_sequence_140 : decode cX8_sequence 140 = .ok (.aload_n 0, 1) := by decide +kernel
theorem dX8_sequence_141 : decode cX8_sequence 141 = .ok (.getfield 198, 3) := by decide +kernel
theorem dX8_sequence_144 : decode cX8_sequence 144 = .ok (.ifCond .ne 11, 3) := by decide +kernel
theorem dX8_sequence_147 : decode cX8_sequence 147 = .ok (.aload_n 0, 1) := by decide +kernel
theorem dX8_sequence_148 : decode cX8_sequence 148 = .ok (.iconst 1, 1) := by decide +kernel
theorem dX8_sequence_149 : decode cX8_sequence 149 = .ok (.putfield 198, 3) := by decide +kernel
theorem dX8_sequence_152 : decode cX8_sequence 152 = .ok (.goto 61, 3) := by decide +kernel
theorem dX8_sequence_155 : decode cX8_sequence 155 = .ok (.iload_n 1, 1) := by decide +kernel
theorem dX8_sequence_156 : decode cX8_sequence 156 = .ok (.bipush 64, 2) := by decide +kernel
theorem dX8_sequence_158 : decode cX8_sequence 158 = .ok (.if_icmp .ge 11, 3) := by decide +kernel
theorem dX8_sequence_161 : decode cX8_sequence 161 = .ok (.aload_n 0, 1) := by decide +kernel
theorem dX8_sequence_162 : decode cX8_sequence 162 = .ok (.iconst 3, 1) := by decide +kernel
theorem dX8_sequence_163 : decode cX8_sequence 163 = .ok (.putfield 90, 3) := by decide +kernel
theorem dX8_sequence_166 : decode cX8_sequence 166 = .ok (.goto 47, 3) := by decide +kernel
theorem dX8_sequence_169 : decode cX8_sequence 169 = .ok (.aload_n 0, 1) := by decide +kernel
theorem dX8_sequence_170 : decode cX8_sequence 170 = .ok (.iconst 0, 1) := by decide +kernel
theorem dX8_sequence_171 : decode cX8_sequence 171 = .ok (.putfield 90, 3) := by decide +kernel
theorem dX8_sequence_174 : decode cX8_sequence 174 = .ok (.aload_n 0, 1) := by decide +kernel
theorem dX8_sequence_175 : decode cX8_sequence 175 = .ok (.getfield 198, 3) := by decide +kernel
theorem dX8_sequence_178 : decode cX8_sequence 178 = .ok (.ifCond .eq 11, 3) := by decide +kernel
theorem dX8_sequence_181 : decode cX8_sequence 181 = .ok (.aload_n 0, 1) := by decide +kernel
theorem dX8_sequence_182 : decode cX8_sequence 182 = .ok (.iload_n 1, 1) := by decide +kernel
theorem dX8_sequence_183 : decode cX8_sequence 183 = .ok (.invokevirtual 207, 3) := by decide +kernel
theorem dX8_sequence_186 : decode cX8_sequence 186 = .ok (.goto 27, 3) := by decide +kernel
theorem dX8_sequence_189 : decode cX8_sequence 189 = .ok (.aload_n 0, 1) := by decide +kernel
theorem dX8_sequence_190 : decode cX8_sequence 190 = .ok (.iload_n 1, 1) := by decide +kernel
theorem dX8_sequence_191 : decode cX8_sequence 191 = .ok (.aload_n 0, 1) := by decide +kernel
theorem dX8_sequence_192 : decode cX8_sequence 192 = .ok (.getfield 35, 3) := by decide +kernel
theorem dX8_sequence_195 : decode cX8_sequence 195 = .ok (.iconst 0, 1) := by decide +kernel
theorem dX8_sequence_196 : decode cX8_sequence 196 = .ok (.iaload, 1) := by decide +kernel
theorem dX8_sequence_197 : decode cX8_sequence 197 = .ok (.ifCond .ne 7, 3) := by decide +kernel
theorem dX8_sequence_200 : decode cX8_sequence 200 = .ok (.iconst 1, 1) := by decide +kernel
theorem dX8_sequence_201 : decode cX8_sequence 201 = .ok (.goto 9, 3) := by decide +kernel
theorem dX8_sequence_204 : decode cX8_sequence 204 = .ok (.aload_n 0, 1) := by decide +kernel
theorem dX8_sequence_205 : decode cX8_sequence 205 = .ok (.getfield 35, 3) := by decide +kernel
theorem dX8_sequence_208 : decode cX8_sequence 208 = .ok (.iconst 0, 1) := by decide +kernel
theorem dX8_sequence_209 : decode cX8_sequence 209 = .ok (.iaload, 1) := by decide +kernel
theorem dX8_sequence_210 : decode cX8_sequence 210 = .ok (.invokevirtual 210, 3) := by decide +kernel
theorem dX8_sequence_213 : decode cX8_sequence 213 = .ok (.return_, 1) := by decide +kernel
theorem dX8_kept_0 : decode cX8_kept 0 = .ok (.aload_n 0, 1) := by decide +kernel
theorem dX8_kept_1 : decode cX8_kept 1 = .ok (.getfield 195, 3) := by decide +kernel
theorem dX8_kept_4 : decode cX8_kept 4 = .ok (.bipush 6, 2) := by decide +kernel
theorem dX8_kept_6 : decode cX8_kept 6 = .ok (.if_icmp .ge 10, 3) := by decide +kernel
theorem dX8_kept_9 : decode cX8_kept 9 = .ok (.aload_n 0, 1) := by decide +kernel
theorem dX8_kept_10 : decode cX8_kept 10 = .ok (.getfield 195, 3) := by decide +kernel
theorem dX8_kept_13 : decode cX8_kept 13 = .ok (.goto 5, 3) := by decide +kernel
theorem dX8_kept_16 : decode cX8_kept 16 = .ok (.bipush 6, 2) := by decide +kernel
theorem dX8_kept_18 : decode cX8_kept 18 = .ok (.ireturn, 1) := by decide +kernel
theorem dX8_privately_0 : decode cX8_privately 0 = .ok (.iload_n 1, 1) := by decide +kernel
theorem dX8_privately_1 : decode cX8_privately 1 = .ok (.bipush 104, 2) := by decide +kernel
theorem dX8_privately_3 : decode cX8_privately 3 = .ok (.if_icmp .eq 10, 3) := by decide +kernel
theorem dX8_privately_6 : decode cX8_privately 6 = .ok (.iload_n 1, 1) := by decide +kernel
theorem dX8_privately_7 : decode cX8_privately 7 = .ok (.bipush 108, 2) := by decide +kernel
theorem dX8_privately_9 : decode cX8_privately 9 = .ok (.if_icmp .eq 4, 3) := by decide +kernel
theorem dX8_privately_12 : decode cX8_privately 12 = .ok (.return_, 1) := by decide +kernel
theorem dX8_privately_13 : decode cX8_privately 13 = .ok (.iload_n 1, 1) := by decide +kernel
theorem dX8_privately_14 : decode cX8_privately 14 = .ok (.bipush 104, 2) := by decide +kernel
theorem dX8_privately_16 : decode cX8_privately 16 = .ok (.if_icmp .ne 7, 3) := by decide +kernel
theorem dX8_privately_19 : decode cX8_privately 19 = .ok (.iconst 1, 1) := by decide +kernel
theorem dX8_privately_20 : decode cX8_privately 20 = .ok (.goto 4, 3) := by decide +kernel
theorem dX8_privately_23 : decode cX8_privately 23 = .ok (.iconst 0, 1) := by decide +kernel
theorem dX8_privately_24 : decode cX8_privately 24 = .ok (.istore_n 2, 1) := by decide +kernel
theorem dX8_privately_25 : decode cX8_privately 25 = .ok (.iconst 0, 1) := by decide +kernel
theorem dX8_privately_26 : decode cX8_privately 26 = .ok (.istore_n 3, 1) := by decide +kernel
theorem dX8_privately_27 : decode cX8_privately 27 = .ok (.iload_n 3, 1) := by decide +kernel
theorem dX8_privately_28 : decode cX8_privately 28 = .ok (.aload_n 0, 1) := by decide +kernel
theorem dX8_privately_29 : decode cX8_privately 29 = .ok (.invokevirtual 213, 3) := by decide +kernel
theorem dX8_privately_32 : decode cX8_privately 32 = .ok (.if_icmp .ge 101, 3) := by decide +kernel
theorem dX8_privately_35 : decode cX8_privately 35 = .ok (.aload_n 0, 1) := by decide +kernel
theorem dX8_privately_36 : decode cX8_privately 36 = .ok (.getfield 35, 3) := by decide +kernel
theorem dX8_privately_39 : decode cX8_privately 39 = .ok (.iload_n 3, 1) := by decide +kernel
theorem dX8_privately_40 : decode cX8_privately 40 = .ok (.iaload, 1) := by decide +kernel
theorem dX8_privately_41 : decode cX8_privately 41 = .ok (.bipush 6, 2) := by decide +kernel
theorem dX8_privately_43 : decode cX8_privately 43 = .ok (.if_icmp .ne 14, 3) := by decide +kernel
theorem dX8_privately_46 : decode cX8_privately 46 = .ok (.aload_n 0, 1) := by decide +kernel
theorem dX8_privately_47 : decode cX8_privately 47 = .ok (.iload_n 2, 1) := by decide +kernel
theorem dX8_privately_48 : decode cX8_privately 48 = .ok (.putfield 69, 3) := by decide +kernel
theorem dX8_privately_51 : decode cX8_privately 51 = .ok (.aload_n 0, 1) := by decide +kernel
theorem dX8_privately_52 : decode cX8_privately 52 = .ok (.iconst 1, 1) := by decide +kernel
theorem dX8_privately_53 : decode cX8_privately 53 = .ok (.iconst 0, 1) := by decide +kernel
theorem dX8_privately_54 : decode cX8_privately 54 = .ok (.invokevirtual 216, 3) := by decide +kernel
theorem dX8_privately_57 : decode cX8_privately 57 = .ok (.aload_n 0, 1) := by decide +kernel
theorem dX8_privately_58 : decode cX8_privately 58 = .ok (.getfield 35, 3) := by decide +kernel
theorem dX8_privately_61 : decode cX8_privately 61 = .ok (.iload_n 3, 1) := by decide +kernel
theorem dX8_privately_62 : decode cX8_privately 62 = .ok (.iaload, 1) := by decide +kernel
theorem dX8_privately_63 : decode cX8_privately 63 = .ok (.bipush 7, 2) := by decide +kernel
theorem dX8_privately_65 : decode cX8_privately 65 = .ok (.if_icmp .ne 8, 3) := by decide +kernel
theorem dX8_privately_68 : decode cX8_privately 68 = .ok (.aload_n 0, 1) := by decide +kernel
theorem dX8_privately_69 : decode cX8_privately 69 = .ok (.iload_n 2, 1) := by decide +kernel
theorem dX8_privately_70 : decode cX8_privately 70 = .ok (.putfield 72, 3) := by decide +kernel
theorem dX8_privately_73 : decode cX8_privately 73 = .ok (.aload_n 0, 1) := by decide +kernel
theorem dX8_privately_74 : decode cX8_privately 74 = .ok (.getfield 35, 3) := by decide +kernel
theorem dX8_privately_77 : decode cX8_privately 77 = .ok (.iload_n 3, 1) := by decide +kernel
theorem dX8_privately_78 : decode cX8_privately 78 = .ok (.iaload, 1) := by decide +kernel
theorem dX8_privately_79 : decode cX8_privately 79 = .ok (.bipush 47, 2) := by decide +kernel
theorem dX8_privately_81 : decode cX8_privately 81 = .ok (.if_icmp .ne 26, 3) := by decide +kernel
theorem dX8_privately_84 : decode cX8_privately 84 = .ok (.iload_n 2, 1) := by decide +kernel
theorem dX8_privately_85 : decode cX8_privately 85 = .ok (.ifCond .eq 22, 3) := by decide +kernel
theorem dX8_privately_88 : decode cX8_privately 88 = .ok (.aload_n 0, 1) := by decide +kernel
theorem dX8_privately_89 : decode cX8_privately 89 = .ok (.getfield 49, 3) := by decide +kernel
theorem dX8_privately_92 : decode cX8_privately 92 = .ok (.ifCond .ne 15, 3) := by decide +kernel
theorem dX8_privately_95 : decode cX8_privately 95 = .ok (.aload_n 0, 1) := by decide +kernel
theorem dX8_privately_96 : decode cX8_privately 96 = .ok (.iconst 1, 1) := by decide +kernel
theorem dX8_privately_97 : decode cX8_privately 97 = .ok (.putfield 49, 3) := by decide +kernel
theorem dX8_privately_100 : decode cX8_privately 100 = .ok (.aload_n 0, 1) := by decide +kernel
theorem dX8_privately_101 : decode cX8_privately 101 = .ok (.iconst 0, 1) := by decide +kernel
theorem dX8_privately_102 : decode cX8_privately 102 = .ok (.bipush 95, 2) := by decide +kernel
theorem dX8_privately_104 : decode cX8_privately 104 = .ok (.invokevirtual 219, 3) := by decide +kernel
theorem dX8_privately_107 : decode cX8_privately 107 = .ok (.aload_n 0, 1) := by decide +kernel
theorem dX8_privately_108 : decode cX8_privately 108 = .ok (.getfield 35, 3) := by decide +kernel
theorem dX8_privately_111 : decode cX8_privately 111 = .ok (.iload_n 3, 1) := by decide +kernel
theorem dX8_privately_112 : decode cX8_privately 112 = .ok (.iaload, 1) := by decide +kernel
theorem dX8_privately_113 : decode cX8_privately 113 = .ok (.bipush 47, 2) := by decide +kernel
theorem dX8_privately_115 : decode cX8_privately 115 = .ok (.if_icmp .ne 12, 3) := by decide +kernel
theorem dX8_privately_118 : decode cX8_privately 118 = .ok (.iload_n 2, 1) := by decide +kernel
theorem dX8_privately_119 : decode cX8_privately 119 = .ok (.ifCond .ne 8, 3) := by decide +kernel
theorem dX8_privately_122 : decode cX8_privately 122 = .ok (.aload_n 0, 1) := by decide +kernel
theorem dX8_privately_123 : decode cX8_privately 123 = .ok (.iconst 0, 1) := by decide +kernel
theorem dX8_privately_124 : decode cX8_privately 124 = .ok (.putfield 49, 3) := by decide +kernel
theorem dX8_privately_127 : decode cX8_privately 127 = .ok (.iinc 3 1, 3) := by decide +kernel
theorem dX8_privately_130 : decode cX8_privately 130 = .ok (.goto (-103), 3) := by decide +kernel
theorem dX8_privately_133 : decode cX8_privately 133 = .ok (.return_, 1) := by decide +kernel
theorem dX8_atMost_0 : decode cX8_atMost 0 = .ok (.iload_n 0, 1) := by decide +kernel
theorem dX8_atMost_1 : decode cX8_atMost 1 = .ok (.iload_n 1, 1) := by decide +kernel
theorem dX8_atMost_2 : decode cX8_atMost 2 = .ok (.if_icmp .ge 7, 3) := by decide +kernel
theorem dX8_atMost_5 : decode cX8_atMost 5 = .ok (.iload_n 0, 1) := by decide +kernel
theorem dX8_atMost_6 : decode cX8_atMost 6 = .ok (.goto 4, 3) := by decide +kernel
theorem dX8_atMost_9 : decode cX8_atMost 9 = .ok (.iload_n 1, 1) := by decide +kernel
theorem dX8_atMost_10 : decode cX8_atMost 10 = .ok (.ireturn, 1) := by decide +kernel
theorem dX8_atLeast_0 : decode cX8_atLeast 0 = .ok (.iload_n 0, 1) := by decide +kernel
theorem dX8_atLeast_1 : decode cX8_atLeast 1 = .ok (.iload_n 1, 1) := by decide +kernel
theorem dX8_atLeast_2 : decode cX8_atLeast 2 = .ok (.if_icmp .le 7, 3) := by decide +kernel
theorem dX8_atLeast_5 : decode cX8_atLeast 5 = .ok (.iload_n 0, 1) := by decide +kernel
theorem dX8_atLeast_6 : decode cX8_atLeast 6 = .ok (.goto 4, 3) := by decide +kernel
theorem dX8_atLeast_9 : decode cX8_atLeast 9 = .ok (.iload_n 1, 1) := by decide +kernel
theorem dX8_atLeast_10 : decode cX8_atLeast 10 = .ok (.ireturn, 1) := by decide +kernel
theorem dX8_home_0 : decode cX8_home 0 = .ok (.iload_n 2, 1) := by decide +kernel
theorem dX8_home_1 : decode cX8_home 1 = .ok (.ifCond .ne 7, 3) := by decide +kernel
theorem dX8_home_4 : decode cX8_home 4 = .ok (.iconst 0, 1) := by decide +kernel
theorem dX8_home_5 : decode cX8_home 5 = .ok (.goto 11, 3) := by decide +kernel
theorem dX8_home_8 : decode cX8_home 8 = .ok (.iload_n 2, 1) := by decide +kernel
theorem dX8_home_9 : decode cX8_home 9 = .ok (.iconst 1, 1) := by decide +kernel
theorem dX8_home_10 : decode cX8_home 10 = .ok (.isub, 1) := by decide +kernel
theorem dX8_home_11 : decode cX8_home 11 = .ok (.bipush 11, 2) := by decide +kernel
theorem dX8_home_13 : decode cX8_home 13 = .ok (.invokestatic 222, 3) := by decide +kernel
theorem dX8_home_16 : decode cX8_home 16 = .ok (.istore_n 3, 1) := by decide +kernel
theorem dX8_home_17 : decode cX8_home 17 = .ok (.aload_n 0, 1) := by decide +kernel
theorem dX8_home_18 : decode cX8_home 18 = .ok (.aload_n 0, 1) := by decide +kernel
theorem dX8_home_19 : decode cX8_home 19 = .ok (.getfield 69, 3) := by decide +kernel
theorem dX8_home_22 : decode cX8_home 22 = .ok (.ifCond .eq 21, 3) := by decide +kernel
theorem dX8_home_25 : decode cX8_home 25 = .ok (.aload_n 0, 1) := by decide +kernel
theorem dX8_home_26 : decode cX8_home 26 = .ok (.getfield 59, 3) := by decide +kernel
theorem dX8_home_29 : decode cX8_home 29 = .ok (.iload_n 1, 1) := by decide +kernel
theorem dX8_home_30 : decode cX8_home 30 = .ok (.iadd, 1) := by decide +kernel
theorem dX8_home_31 : decode cX8_home 31 = .ok (.iconst 1, 1) := by decide +kernel
theorem dX8_home_32 : decode cX8_home 32 = .ok (.isub, 1) := by decide +kernel
theorem dX8_home_33 : decode cX8_home 33 = .ok (.aload_n 0, 1) := by decide +kernel
theorem dX8_home_34 : decode cX8_home 34 = .ok (.getfield 62, 3) := by decide +kernel
theorem dX8_home_37 : decode cX8_home 37 = .ok (.invokestatic 222, 3) := by decide +kernel
theorem dX8_home_40 : decode cX8_home 40 = .ok (.goto 11, 3) := by decide +kernel
theorem dX8_home_43 : decode cX8_home 43 = .ok (.iload_n 1, 1) := by decide +kernel
theorem dX8_home_44 : decode cX8_home 44 = .ok (.iconst 1, 1) := by decide +kernel
theorem dX8_home_45 : decode cX8_home 45 = .ok (.isub, 1) := by decide +kernel
theorem dX8_home_46 : decode cX8_home 46 = .ok (.bipush 7, 2) := by decide +kernel
theorem dX8_home_48 : decode cX8_home 48 = .ok (.invokestatic 222, 3) := by decide +kernel
theorem dX8_home_51 : decode cX8_home 51 = .ok (.iload_n 3, 1) := by decide +kernel
theorem dX8_home_52 : decode cX8_home 52 = .ok (.invokevirtual 52, 3) := by decide +kernel
theorem dX8_home_55 : decode cX8_home 55 = .ok (.return_, 1) := by decide +kernel
theorem dX8_above_0 : decode cX8_above 0 = .ok (.aload_n 0, 1) := by decide +kernel
theorem dX8_above_1 : decode cX8_above 1 = .ok (.getfield 96, 3) := by decide +kernel
theorem dX8_above_4 : decode cX8_above 4 = .ok (.iload_n 1, 1) := by decide +kernel
theorem dX8_above_5 : decode cX8_above 5 = .ok (.isub, 1) := by decide +kernel
theorem dX8_above_6 : decode cX8_above 6 = .ok (.aload_n 0, 1) := by decide +kernel
theorem dX8_above_7 : decode cX8_above 7 = .ok (.getfield 96, 3) := by decide +kernel
theorem dX8_above_10 : decode cX8_above 10 = .ok (.aload_n 0, 1) := by decide +kernel
theorem dX8_above_11 : decode cX8_above 11 = .ok (.getfield 59, 3) := by decide +kernel
theorem dX8_above_14 : decode cX8_above 14 = .ok (.if_icmp .lt 10, 3) := by decide +kernel
theorem dX8_above_17 : decode cX8_above 17 = .ok (.aload_n 0, 1) := by decide +kernel
theorem dX8_above_18 : decode cX8_above 18 = .ok (.getfield 59, 3) := by decide +kernel
theorem dX8_above_21 : decode cX8_above 21 = .ok (.goto 4, 3) := by decide +kernel
theorem dX8_above_24 : decode cX8_above 24 = .ok (.iconst 0, 1) := by decide +kernel
theorem dX8_above_25 : decode cX8_above 25 = .ok (.invokestatic 226, 3) := by decide +kernel
theorem dX8_above_28 : decode cX8_above 28 = .ok (.ireturn, 1) := by decide +kernel
theorem dX8_below_0 : decode cX8_below 0 = .ok (.aload_n 0, 1) := by decide +kernel
theorem dX8_below_1 : decode cX8_below 1 = .ok (.getfield 96, 3) := by decide +kernel
theorem dX8_below_4 : decode cX8_below 4 = .ok (.iload_n 1, 1) := by decide +kernel
theorem dX8_below_5 : decode cX8_below 5 = .ok (.iadd, 1) := by decide +kernel
theorem dX8_below_6 : decode cX8_below 6 = .ok (.aload_n 0, 1) := by decide +kernel
theorem dX8_below_7 : decode cX8_below 7 = .ok (.getfield 96, 3) := by decide +kernel
theorem dX8_below_10 : decode cX8_below 10 = .ok (.aload_n 0, 1) := by decide +kernel
theorem dX8_below_11 : decode cX8_below 11 = .ok (.getfield 62, 3) := by decide +kernel
theorem dX8_below_14 : decode cX8_below 14 = .ok (.if_icmp .gt 10, 3) := by decide +kernel
theorem dX8_below_17 : decode cX8_below 17 = .ok (.aload_n 0, 1) := by decide +kernel
theorem dX8_below_18 : decode cX8_below 18 = .ok (.getfield 62, 3) := by decide +kernel
theorem dX8_below_21 : decode cX8_below 21 = .ok (.goto 5, 3) := by decide +kernel
theorem dX8_below_24 : decode cX8_below 24 = .ok (.bipush 7, 2) := by decide +kernel
theorem dX8_below_26 : decode cX8_below 26 = .ok (.invokestatic 222, 3) := by decide +kernel
theorem dX8_below_29 : decode cX8_below 29 = .ok (.ireturn, 1) := by decide +kernel
theorem dX8_doIt_0 : decode cX8_doIt 0 = .ok (.iload_n 1, 1) := by decide +kernel
theorem dX8_doIt_1 : decode cX8_doIt 1 = .ok (.tableswitch 320 65 102 #[167, 183, 199, 221, 242, 255, 268, 306, 320, 320, 320, 320, 320, 320, 320, 320, 320, 320, 320, 320, 320, 320, 320, 320, 320, 320, 320, 320, 320, 320, 320, 320, 320, 320, 320, 287, 320, 306], 167) := by decide +kernel
theorem dX8_doIt_168 : decode cX8_doIt 168 = .ok (.aload_n 0, 1) := by decide +kernel
theorem dX8_doIt_169 : decode cX8_doIt 169 = .ok (.aload_n 0, 1) := by decide +kernel
theorem dX8_doIt_170 : decode cX8_doIt 170 = .ok (.iload_n 2, 1) := by decide +kernel
theorem dX8_doIt_171 : decode cX8_doIt 171 = .ok (.invokevirtual 229, 3) := by decide +kernel
theorem dX8_doIt_174 : decode cX8_doIt 174 = .ok (.aload_n 0, 1) := by decide +kernel
theorem dX8_doIt_175 : decode cX8_doIt 175 = .ok (.getfield 99, 3) := by decide +kernel
theorem dX8_doIt_178 : decode cX8_doIt 178 = .ok (.invokevirtual 52, 3) := by decide +kernel
theorem dX8_doIt_181 : decode cX8_doIt 181 = .ok (.goto 146, 3) := by decide +kernel
theorem dX8_doIt_184 : decode cX8_doIt 184 = .ok (.aload_n 0, 1) := by decide +kernel
theorem dX8_doIt_185 : decode cX8_doIt 185 = .ok (.aload_n 0, 1) := by decide +kernel
theorem dX8_doIt_186 : decode cX8_doIt 186 = .ok (.iload_n 2, 1) := by decide +kernel
theorem dX8_doIt_187 : decode cX8_doIt 187 = .ok (.invokevirtual 233, 3) := by decide +kernel
theorem dX8_doIt_190 : decode cX8_doIt 190 = .ok (.aload_n 0, 1) := by decide +kernel
theorem dX8_doIt_191 : decode cX8_doIt 191 = .ok (.getfield 99, 3) := by decide +kernel
theorem dX8_doIt_194 : decode cX8_doIt 194 = .ok (.invokevirtual 52, 3) := by decide +kernel
theorem dX8_doIt_197 : decode cX8_doIt 197 = .ok (.goto 130, 3) := by decide +kernel
theorem dX8_doIt_200 : decode cX8_doIt 200 = .ok (.aload_n 0, 1) := by decide +kernel
theorem dX8_doIt_201 : decode cX8_doIt 201 = .ok (.aload_n 0, 1) := by decide +kernel
theorem dX8_doIt_202 : decode cX8_doIt 202 = .ok (.getfield 96, 3) := by decide +kernel
theorem dX8_doIt_205 : decode cX8_doIt 205 = .ok (.aload_n 0, 1) := by decide +kernel
theorem dX8_doIt_206 : decode cX8_doIt 206 = .ok (.getfield 99, 3) := by decide +kernel
theorem dX8_doIt_209 : decode cX8_doIt 209 = .ok (.iload_n 2, 1) := by decide +kernel
theorem dX8_doIt_210 : decode cX8_doIt 210 = .ok (.iadd, 1) := by decide +kernel
theorem dX8_doIt_211 : decode cX8_doIt 211 = .ok (.bipush 11, 2) := by decide +kernel
theorem dX8_doIt_213 : decode cX8_doIt 213 = .ok (.invokestatic 222, 3) := by decide +kernel
theorem dX8_doIt_216 : decode cX8_doIt 216 = .ok (.invokevirtual 52, 3) := by decide +kernel
theorem dX8_doIt_219 : decode cX8_doIt 219 = .ok (.goto 108, 3) := by decide +kernel
theorem dX8_doIt_222 : decode cX8_doIt 222 = .ok (.aload_n 0, 1) := by decide +kernel
theorem dX8_doIt_223 : decode cX8_doIt 223 = .ok (.aload_n 0, 1) := by decide +kernel
theorem dX8_doIt_224 : decode cX8_doIt 224 = .ok (.getfield 96, 3) := by decide +kernel
theorem dX8_doIt_227 : decode cX8_doIt 227 = .ok (.aload_n 0, 1) := by decide +kernel
theorem dX8_doIt_228 : decode cX8_doIt 228 = .ok (.getfield 99, 3) := by decide +kernel
theorem dX8_doIt_231 : decode cX8_doIt 231 = .ok (.iload_n 2, 1) := by decide +kernel
theorem dX8_doIt_232 : decode cX8_doIt 232 = .ok (.isub, 1) := by decide +kernel
theorem dX8_doIt_233 : decode cX8_doIt 233 = .ok (.iconst 0, 1) := by decide +kernel
theorem dX8_doIt_234 : decode cX8_doIt 234 = .ok (.invokestatic 226, 3) := by decide +kernel
theorem dX8_doIt_237 : decode cX8_doIt 237 = .ok (.invokevirtual 52, 3) := by decide +kernel
theorem dX8_doIt_240 : decode cX8_doIt 240 = .ok (.goto 87, 3) := by decide +kernel
theorem dX8_doIt_243 : decode cX8_doIt 243 = .ok (.aload_n 0, 1) := by decide +kernel
theorem dX8_doIt_244 : decode cX8_doIt 244 = .ok (.aload_n 0, 1) := by decide +kernel
theorem dX8_doIt_245 : decode cX8_doIt 245 = .ok (.iload_n 2, 1) := by decide +kernel
theorem dX8_doIt_246 : decode cX8_doIt 246 = .ok (.invokevirtual 233, 3) := by decide +kernel
theorem dX8_doIt_249 : decode cX8_doIt 249 = .ok (.iconst 0, 1) := by decide +kernel
theorem dX8_doIt_250 : decode cX8_doIt 250 = .ok (.invokevirtual 52, 3) := by decide +kernel
theorem dX8_doIt_253 : decode cX8_doIt 253 = .ok (.goto 74, 3) := by decide +kernel
theorem dX8_doIt_256 : decode cX8_doIt 256 = .ok (.aload_n 0, 1) := by decide +kernel
theorem dX8_doIt_257 : decode cX8_doIt 257 = .ok (.aload_n 0, 1) := by decide +kernel
theorem dX8_doIt_258 : decode cX8_doIt 258 = .ok (.iload_n 2, 1) := by decide +kernel
theorem dX8_doIt_259 : decode cX8_doIt 259 = .ok (.invokevirtual 229, 3) := by decide +kernel
theorem dX8_doIt_262 : decode cX8_doIt 262 = .ok (.iconst 0, 1) := by decide +kernel
theorem dX8_doIt_263 : decode cX8_doIt 263 = .ok (.invokevirtual 52, 3) := by decide +kernel
theorem dX8_doIt_266 : decode cX8_doIt 266 = .ok (.goto 61, 3) := by decide +kernel
theorem dX8_doIt_269 : decode cX8_doIt 269 = .ok (.aload_n 0, 1) := by decide +kernel
theorem dX8_doIt_270 : decode cX8_doIt 270 = .ok (.aload_n 0, 1) := by decide +kernel
theorem dX8_doIt_271 : decode cX8_doIt 271 = .ok (.getfield 96, 3) := by decide +kernel
theorem dX8_doIt_274 : decode cX8_doIt 274 = .ok (.iload_n 2, 1) := by decide +kernel
theorem dX8_doIt_275 : decode cX8_doIt 275 = .ok (.iconst 1, 1) := by decide +kernel
theorem dX8_doIt_276 : decode cX8_doIt 276 = .ok (.isub, 1) := by decide +kernel
theorem dX8_doIt_277 : decode cX8_doIt 277 = .ok (.bipush 11, 2) := by decide +kernel
theorem dX8_doIt_279 : decode cX8_doIt 279 = .ok (.invokestatic 222, 3) := by decide +kernel
theorem dX8_doIt_282 : decode cX8_doIt 282 = .ok (.invokevirtual 52, 3) := by decide +kernel
theorem dX8_doIt_285 : decode cX8_doIt 285 = .ok (.goto 42, 3) := by decide +kernel
theorem dX8_doIt_288 : decode cX8_doIt 288 = .ok (.aload_n 0, 1) := by decide +kernel
theorem dX8_doIt_289 : decode cX8_doIt 289 = .ok (.iload_n 2, 1) := by decide +kernel
theorem dX8_doIt_290 : decode cX8_doIt 290 = .ok (.iconst 1, 1) := by decide +kernel
theorem dX8_doIt_291 : decode cX8_doIt 291 = .ok (.isub, 1) := by decide +kernel
theorem dX8_doIt_292 : decode cX8_doIt 292 = .ok (.bipush 7, 2) := by decide +kernel
theorem dX8_doIt_294 : decode cX8_doIt 294 = .ok (.invokestatic 222, 3) := by decide +kernel
theorem dX8_doIt_297 : decode cX8_doIt 297 = .ok (.aload_n 0, 1) := by decide +kernel
theorem dX8_doIt_298 : decode cX8_doIt 298 = .ok (.getfield 99, 3) := by decide +kernel
theorem dX8_doIt_301 : decode cX8_doIt 301 = .ok (.invokevirtual 52, 3) := by decide +kernel
theorem dX8_doIt_304 : decode cX8_doIt 304 = .ok (.goto 23, 3) := by decide +kernel
theorem dX8_doIt_307 : decode cX8_doIt 307 = .ok (.aload_n 0, 1) := by decide +kernel
theorem dX8_doIt_308 : decode cX8_doIt 308 = .ok (.iload_n 2, 1) := by decide +kernel
theorem dX8_doIt_309 : decode cX8_doIt 309 = .ok (.aload_n 0, 1) := by decide +kernel
theorem dX8_doIt_310 : decode cX8_doIt 310 = .ok (.getfield 35, 3) := by decide +kernel
theorem dX8_doIt_313 : decode cX8_doIt 313 = .ok (.iconst 1, 1) := by decide +kernel
theorem dX8_doIt_314 : decode cX8_doIt 314 = .ok (.iaload, 1) := by decide +kernel
theorem dX8_doIt_315 : decode cX8_doIt 315 = .ok (.invokevirtual 216, 3) := by decide +kernel
theorem dX8_doIt_318 : decode cX8_doIt 318 = .ok (.goto 9, 3) := by decide +kernel
theorem dX8_doIt_321 : decode cX8_doIt 321 = .ok (.aload_n 0, 1) := by decide +kernel
theorem dX8_doIt_322 : decode cX8_doIt 322 = .ok (.iload_n 1, 1) := by decide +kernel
theorem dX8_doIt_323 : decode cX8_doIt 323 = .ok (.iload_n 2, 1) := by decide +kernel
theorem dX8_doIt_324 : decode cX8_doIt 324 = .ok (.invokevirtual 236, 3) := by decide +kernel
theorem dX8_doIt_327 : decode cX8_doIt 327 = .ok (.return_, 1) := by decide +kernel
theorem dX8_change_0 : decode cX8_change 0 = .ok (.bipush 12, 2) := by decide +kernel
theorem dX8_change_2 : decode cX8_change 2 = .ok (.aload_n 0, 1) := by decide +kernel
theorem dX8_change_3 : decode cX8_change 3 = .ok (.getfield 96, 3) := by decide +kernel
theorem dX8_change_6 : decode cX8_change 6 = .ok (.imul, 1) := by decide +kernel
theorem dX8_change_7 : decode cX8_change 7 = .ok (.aload_n 0, 1) := by decide +kernel
theorem dX8_change_8 : decode cX8_change 8 = .ok (.getfield 99, 3) := by decide +kernel
theorem dX8_change_11 : decode cX8_change 11 = .ok (.iadd, 1) := by decide +kernel
theorem dX8_change_12 : decode cX8_change 12 = .ok (.istore_n 3, 1) := by decide +kernel
theorem dX8_change_13 : decode cX8_change 13 = .ok (.aload_n 0, 1) := by decide +kernel
theorem dX8_change_14 : decode cX8_change 14 = .ok (.getfield 96, 3) := by decide +kernel
theorem dX8_change_17 : decode cX8_change 17 = .ok (.aload_n 0, 1) := by decide +kernel
theorem dX8_change_18 : decode cX8_change 18 = .ok (.getfield 59, 3) := by decide +kernel
theorem dX8_change_21 : decode cX8_change 21 = .ok (.if_icmp .lt 18, 3) := by decide +kernel
theorem dX8_change_24 : decode cX8_change 24 = .ok (.aload_n 0, 1) := by decide +kernel
theorem dX8_change_25 : decode cX8_change 25 = .ok (.getfield 96, 3) := by decide +kernel
theorem dX8_change_28 : decode cX8_change 28 = .ok (.aload_n 0, 1) := by decide +kernel
theorem dX8_change_29 : decode cX8_change 29 = .ok (.getfield 62, 3) := by decide +kernel
theorem dX8_change_32 : decode cX8_change 32 = .ok (.if_icmp .gt 7, 3) := by decide +kernel
theorem dX8_change_35 : decode cX8_change 35 = .ok (.iconst 1, 1) := by decide +kernel
theorem dX8_change_36 : decode cX8_change 36 = .ok (.goto 4, 3) := by decide +kernel
theorem dX8_change_39 : decode cX8_change 39 = .ok (.iconst 0, 1) := by decide +kernel
theorem dX8_change_40 : decode cX8_change 40 = .ok (.istore 4, 2) := by decide +kernel
theorem dX8_change_42 : decode cX8_change 42 = .ok (.aload_n 0, 1) := by decide +kernel
theorem dX8_change_43 : decode cX8_change 43 = .ok (.getfield 35, 3) := by decide +kernel
theorem dX8_change_46 : decode cX8_change 46 = .ok (.iconst 0, 1) := by decide +kernel
theorem dX8_change_47 : decode cX8_change 47 = .ok (.iaload, 1) := by decide +kernel
theorem dX8_change_48 : decode cX8_change 48 = .ok (.istore 5, 2) := by decide +kernel
theorem dX8_change_50 : decode cX8_change 50 = .ok (.iload_n 1, 1) := by decide +kernel
theorem dX8_change_51 : decode cX8_change 51 = .ok (.tableswitch 304 64 88 #[227, 304, 304, 304, 304, 304, 304, 304, 304, 304, 113, 148, 244, 262, 304, 304, 236, 304, 304, 279, 291, 304, 304, 304, 199], 113) := by decide +kernel
theorem dX8_change_164 : decode cX8_change 164 = .ok (.iload 5, 2) := by decide +kernel
theorem dX8_change_166 : decode cX8_change 166 = .ok (.iconst 3, 1) := by decide +kernel
theorem dX8_change_167 : decode cX8_change 167 = .ok (.if_icmp .ge 194, 3) := by decide +kernel
theorem dX8_change_170 : decode cX8_change 170 = .ok (.aload_n 0, 1) := by decide +kernel
theorem dX8_change_171 : decode cX8_change 171 = .ok (.iload 5, 2) := by decide +kernel
theorem dX8_change_173 : decode cX8_change 173 = .ok (.ifCond .ne 7, 3) := by decide +kernel
theorem dX8_change_176 : decode cX8_change 176 = .ok (.iload_n 3, 1) := by decide +kernel
theorem dX8_change_177 : decode cX8_change 177 = .ok (.goto 4, 3) := by decide +kernel
theorem dX8_change_180 : decode cX8_change 180 = .ok (.iconst 0, 1) := by decide +kernel
theorem dX8_change_181 : decode cX8_change 181 = .ok (.iload 5, 2) := by decide +kernel
theorem dX8_change_183 : decode cX8_change 183 = .ok (.iconst 1, 1) := by decide +kernel
theorem dX8_change_184 : decode cX8_change 184 = .ok (.if_icmp .ne 7, 3) := by decide +kernel
theorem dX8_change_187 : decode cX8_change 187 = .ok (.iload_n 3, 1) := by decide +kernel
theorem dX8_change_188 : decode cX8_change 188 = .ok (.goto 5, 3) := by decide +kernel
theorem dX8_change_191 : decode cX8_change 191 = .ok (.bipush 95, 2) := by decide +kernel
theorem dX8_change_193 : decode cX8_change 193 = .ok (.invokevirtual 219, 3) := by decide +kernel
theorem dX8_change_196 : decode cX8_change 196 = .ok (.goto 165, 3) := by decide +kernel
theorem dX8_change_199 : decode cX8_change 199 = .ok (.iload 5, 2) := by decide +kernel
theorem dX8_change_201 : decode cX8_change 201 = .ok (.iconst 3, 1) := by decide +kernel
theorem dX8_change_202 : decode cX8_change 202 = .ok (.if_icmp .ge 159, 3) := by decide +kernel
theorem dX8_change_205 : decode cX8_change 205 = .ok (.aload_n 0, 1) := by decide +kernel
theorem dX8_change_206 : decode cX8_change 206 = .ok (.iload 5, 2) := by decide +kernel
theorem dX8_change_208 : decode cX8_change 208 = .ok (.ifCond .ne 7, 3) := by decide +kernel
theorem dX8_change_211 : decode cX8_change 211 = .ok (.iload_n 3, 1) := by decide +kernel
theorem dX8_change_212 : decode cX8_change 212 = .ok (.goto 10, 3) := by decide +kernel
theorem dX8_change_215 : decode cX8_change 215 = .ok (.bipush 12, 2) := by decide +kernel
theorem dX8_change_217 : decode cX8_change 217 = .ok (.aload_n 0, 1) := by decide +kernel
theorem dX8_change_218 : decode cX8_change 218 = .ok (.getfield 96, 3) := by decide +kernel
theorem dX8_change_221 : decode cX8_change 221 = .ok (.imul, 1) := by decide +kernel
theorem dX8_change_222 : decode cX8_change 222 = .ok (.iload 5, 2) := by decide +kernel
theorem dX8_change_224 : decode cX8_change 224 = .ok (.iconst 1, 1) := by decide +kernel
theorem dX8_change_225 : decode cX8_change 225 = .ok (.if_icmp .ne 7, 3) := by decide +kernel
theorem dX8_change_228 : decode cX8_change 228 = .ok (.iload_n 3, 1) := by decide +kernel
theorem dX8_change_229 : decode cX8_change 229 = .ok (.goto 15, 3) := by decide +kernel
theorem dX8_change_232 : decode cX8_change 232 = .ok (.bipush 12, 2) := by decide +kernel
theorem dX8_change_234 : decode cX8_change 234 = .ok (.aload_n 0, 1) := by decide +kernel
theorem dX8_change_235 : decode cX8_change 235 = .ok (.getfield 96, 3) := by decide +kernel
theorem dX8_change_238 : decode cX8_change 238 = .ok (.imul, 1) := by decide +kernel
theorem dX8_change_239 : decode cX8_change 239 = .ok (.bipush 12, 2) := by decide +kernel
theorem dX8_change_241 : decode cX8_change 241 = .ok (.iadd, 1) := by decide +kernel
theorem dX8_change_242 : decode cX8_change 242 = .ok (.iconst 1, 1) := by decide +kernel
theorem dX8_change_243 : decode cX8_change 243 = .ok (.isub, 1) := by decide +kernel
theorem dX8_change_244 : decode cX8_change 244 = .ok (.invokevirtual 219, 3) := by decide +kernel
theorem dX8_change_247 : decode cX8_change 247 = .ok (.goto 114, 3) := by decide +kernel
theorem dX8_change_250 : decode cX8_change 250 = .ok (.aload_n 0, 1) := by decide +kernel
theorem dX8_change_251 : decode cX8_change 251 = .ok (.iload_n 3, 1) := by decide +kernel
theorem dX8_change_252 : decode cX8_change 252 = .ok (.iload_n 3, 1) := by decide +kernel
theorem dX8_change_253 : decode cX8_change 253 = .ok (.iload_n 2, 1) := by decide +kernel
theorem dX8_change_254 : decode cX8_change 254 = .ok (.iadd, 1) := by decide +kernel
theorem dX8_change_255 : decode cX8_change 255 = .ok (.iconst 1, 1) := by decide +kernel
theorem dX8_change_256 : decode cX8_change 256 = .ok (.isub, 1) := by decide +kernel
theorem dX8_change_257 : decode cX8_change 257 = .ok (.bipush 12, 2) := by decide +kernel
theorem dX8_change_259 : decode cX8_change 259 = .ok (.aload_n 0, 1) := by decide +kernel
theorem dX8_change_260 : decode cX8_change 260 = .ok (.getfield 96, 3) := by decide +kernel
theorem dX8_change_263 : decode cX8_change 263 = .ok (.imul, 1) := by decide +kernel
theorem dX8_change_264 : decode cX8_change 264 = .ok (.bipush 12, 2) := by decide +kernel
theorem dX8_change_266 : decode cX8_change 266 = .ok (.iadd, 1) := by decide +kernel
theorem dX8_change_267 : decode cX8_change 267 = .ok (.iconst 1, 1) := by decide +kernel
theorem dX8_change_268 : decode cX8_change 268 = .ok (.isub, 1) := by decide +kernel
theorem dX8_change_269 : decode cX8_change 269 = .ok (.invokestatic 222, 3) := by decide +kernel
theorem dX8_change_272 : decode cX8_change 272 = .ok (.invokevirtual 219, 3) := by decide +kernel
theorem dX8_change_275 : decode cX8_change 275 = .ok (.goto 86, 3) := by decide +kernel
theorem dX8_change_278 : decode cX8_change 278 = .ok (.aload_n 0, 1) := by decide +kernel
theorem dX8_change_279 : decode cX8_change 279 = .ok (.iload_n 2, 1) := by decide +kernel
theorem dX8_change_280 : decode cX8_change 280 = .ok (.ineg, 1) := by decide +kernel
theorem dX8_change_281 : decode cX8_change 281 = .ok (.invokevirtual 151, 3) := by decide +kernel
theorem dX8_change_284 : decode cX8_change 284 = .ok (.goto 77, 3) := by decide +kernel
theorem dX8_change_287 : decode cX8_change 287 = .ok (.aload_n 0, 1) := by decide +kernel
theorem dX8_change_288 : decode cX8_change 288 = .ok (.iload_n 2, 1) := by decide +kernel
theorem dX8_change_289 : decode cX8_change 289 = .ok (.invokevirtual 151, 3) := by decide +kernel
theorem dX8_change_292 : decode cX8_change 292 = .ok (.goto 69, 3) := by decide +kernel
theorem dX8_change_295 : decode cX8_change 295 = .ok (.iload 4, 2) := by decide +kernel
theorem dX8_change_297 : decode cX8_change 297 = .ok (.ifCond .eq 64, 3) := by decide +kernel
theorem dX8_change_300 : decode cX8_change 300 = .ok (.aload_n 0, 1) := by decide +kernel
theorem dX8_change_301 : decode cX8_change 301 = .ok (.aload_n 0, 1) := by decide +kernel
theorem dX8_change_302 : decode cX8_change 302 = .ok (.getfield 96, 3) := by decide +kernel
theorem dX8_change_305 : decode cX8_change 305 = .ok (.iload_n 2, 1) := by decide +kernel
theorem dX8_change_306 : decode cX8_change 306 = .ok (.ineg, 1) := by decide +kernel
theorem dX8_change_307 : decode cX8_change 307 = .ok (.invokevirtual 145, 3) := by decide +kernel
theorem dX8_change_310 : decode cX8_change 310 = .ok (.goto 51, 3) := by decide +kernel
theorem dX8_change_313 : decode cX8_change 313 = .ok (.iload 4, 2) := by decide +kernel
theorem dX8_change_315 : decode cX8_change 315 = .ok (.ifCond .eq 46, 3) := by decide +kernel
theorem dX8_change_318 : decode cX8_change 318 = .ok (.aload_n 0, 1) := by decide +kernel
theorem dX8_change_319 : decode cX8_change 319 = .ok (.aload_n 0, 1) := by decide +kernel
theorem dX8_change_320 : decode cX8_change 320 = .ok (.getfield 96, 3) := by decide +kernel
theorem dX8_change_323 : decode cX8_change 323 = .ok (.iload_n 2, 1) := by decide +kernel
theorem dX8_change_324 : decode cX8_change 324 = .ok (.invokevirtual 145, 3) := by decide +kernel
theorem dX8_change_327 : decode cX8_change 327 = .ok (.goto 34, 3) := by decide +kernel
theorem dX8_change_330 : decode cX8_change 330 = .ok (.aload_n 0, 1) := by decide +kernel
theorem dX8_change_331 : decode cX8_change 331 = .ok (.aload_n 0, 1) := by decide +kernel
theorem dX8_change_332 : decode cX8_change 332 = .ok (.getfield 59, 3) := by decide +kernel
theorem dX8_change_335 : decode cX8_change 335 = .ok (.iload_n 2, 1) := by decide +kernel
theorem dX8_change_336 : decode cX8_change 336 = .ok (.invokevirtual 145, 3) := by decide +kernel
theorem dX8_change_339 : decode cX8_change 339 = .ok (.goto 22, 3) := by decide +kernel
theorem dX8_change_342 : decode cX8_change 342 = .ok (.aload_n 0, 1) := by decide +kernel
theorem dX8_change_343 : decode cX8_change 343 = .ok (.aload_n 0, 1) := by decide +kernel
theorem dX8_change_344 : decode cX8_change 344 = .ok (.getfield 59, 3) := by decide +kernel
theorem dX8_change_347 : decode cX8_change 347 = .ok (.iload_n 2, 1) := by decide +kernel
theorem dX8_change_348 : decode cX8_change 348 = .ok (.ineg, 1) := by decide +kernel
theorem dX8_change_349 : decode cX8_change 349 = .ok (.invokevirtual 145, 3) := by decide +kernel
theorem dX8_change_352 : decode cX8_change 352 = .ok (.goto 9, 3) := by decide +kernel
theorem dX8_change_355 : decode cX8_change 355 = .ok (.aload_n 0, 1) := by decide +kernel
theorem dX8_change_356 : decode cX8_change 356 = .ok (.iload_n 1, 1) := by decide +kernel
theorem dX8_change_357 : decode cX8_change 357 = .ok (.iload_n 2, 1) := by decide +kernel
theorem dX8_change_358 : decode cX8_change 358 = .ok (.invokevirtual 239, 3) := by decide +kernel
theorem dX8_change_361 : decode cX8_change 361 = .ok (.return_, 1) := by decide +kernel
theorem dX8_set_0 : decode cX8_set 0 = .ok (.iload_n 1, 1) := by decide +kernel
theorem dX8_set_1 : decode cX8_set 1 = .ok (.tableswitch 359 98 117 #[95, 359, 359, 359, 359, 244, 299, 359, 359, 359, 299, 132, 346, 359, 359, 359, 173, 230, 359, 237], 95) := by decide +kernel
theorem dX8_set_96 : decode cX8_set 96 = .ok (.iconst 0, 1) := by decide +kernel
theorem dX8_set_97 : decode cX8_set 97 = .ok (.istore_n 3, 1) := by decide +kernel
theorem dX8_set_98 : decode cX8_set 98 = .ok (.iload_n 3, 1) := by decide +kernel
theorem dX8_set_99 : decode cX8_set 99 = .ok (.iload_n 2, 1) := by decide +kernel
theorem dX8_set_100 : decode cX8_set 100 = .ok (.if_icmp .ge 30, 3) := by decide +kernel
theorem dX8_set_103 : decode cX8_set 103 = .ok (.iload_n 3, 1) := by decide +kernel
theorem dX8_set_104 : decode cX8_set 104 = .ok (.bipush 24, 2) := by decide +kernel
theorem dX8_set_106 : decode cX8_set 106 = .ok (.if_icmp .ge 24, 3) := by decide +kernel
theorem dX8_set_109 : decode cX8_set 109 = .ok (.aload_n 0, 1) := by decide +kernel
theorem dX8_set_110 : decode cX8_set 110 = .ok (.getfield 78, 3) := by decide +kernel
theorem dX8_set_113 : decode cX8_set 113 = .ok (.ifCond .lt 17, 3) := by decide +kernel
theorem dX8_set_116 : decode cX8_set 116 = .ok (.aload_n 0, 1) := by decide +kernel
theorem dX8_set_117 : decode cX8_set 117 = .ok (.aload_n 0, 1) := by decide +kernel
theorem dX8_set_118 : decode cX8_set 118 = .ok (.getfield 78, 3) := by decide +kernel
theorem dX8_set_121 : decode cX8_set 121 = .ok (.invokevirtual 161, 3) := by decide +kernel
theorem dX8_set_124 : decode cX8_set 124 = .ok (.iinc 3 1, 3) := by decide +kernel
theorem dX8_set_127 : decode cX8_set 127 = .ok (.goto (-29), 3) := by decide +kernel
theorem dX8_set_130 : decode cX8_set 130 = .ok (.goto 230, 3) := by decide +kernel
theorem dX8_set_133 : decode cX8_set 133 = .ok (.aload_n 0, 1) := by decide +kernel
theorem dX8_set_134 : decode cX8_set 134 = .ok (.getfield 195, 3) := by decide +kernel
theorem dX8_set_137 : decode cX8_set 137 = .ok (.ifCond .ne 8, 3) := by decide +kernel
theorem dX8_set_140 : decode cX8_set 140 = .ok (.aload_n 0, 1) := by decide +kernel
theorem dX8_set_141 : decode cX8_set 141 = .ok (.iconst 0, 1) := by decide +kernel
theorem dX8_set_142 : decode cX8_set 142 = .ok (.invokevirtual 56, 3) := by decide +kernel
theorem dX8_set_145 : decode cX8_set 145 = .ok (.iconst 0, 1) := by decide +kernel
theorem dX8_set_146 : decode cX8_set 146 = .ok (.istore_n 3, 1) := by decide +kernel
theorem dX8_set_147 : decode cX8_set 147 = .ok (.iload_n 3, 1) := by decide +kernel
theorem dX8_set_148 : decode cX8_set 148 = .ok (.aload_n 0, 1) := by decide +kernel
theorem dX8_set_149 : decode cX8_set 149 = .ok (.invokevirtual 213, 3) := by decide +kernel
theorem dX8_set_152 : decode cX8_set 152 = .ok (.if_icmp .ge 19, 3) := by decide +kernel
theorem dX8_set_155 : decode cX8_set 155 = .ok (.aload_n 0, 1) := by decide +kernel
theorem dX8_set_156 : decode cX8_set 156 = .ok (.aload_n 0, 1) := by decide +kernel
theorem dX8_set_157 : decode cX8_set 157 = .ok (.getfield 35, 3) := by decide +kernel
theorem dX8_set_160 : decode cX8_set 160 = .ok (.iload_n 3, 1) := by decide +kernel
theorem dX8_set_161 : decode cX8_set 161 = .ok (.iaload, 1) := by decide +kernel
theorem dX8_set_162 : decode cX8_set 162 = .ok (.invokevirtual 242, 3) := by decide +kernel
theorem dX8_set_165 : decode cX8_set 165 = .ok (.iinc 3 1, 3) := by decide +kernel
theorem dX8_set_168 : decode cX8_set 168 = .ok (.goto (-21), 3) := by decide +kernel
theorem dX8_set_171 : decode cX8_set 171 = .ok (.goto 189, 3) := by decide +kernel
theorem dX8_set_174 : decode cX8_set 174 = .ok (.aload_n 0, 1) := by decide +kernel
theorem dX8_set_175 : decode cX8_set 175 = .ok (.getfield 35, 3) := by decide +kernel
theorem dX8_set_178 : decode cX8_set 178 = .ok (.iconst 1, 1) := by decide +kernel
theorem dX8_set_179 : decode cX8_set 179 = .ok (.iaload, 1) := by decide +kernel
theorem dX8_set_180 : decode cX8_set 180 = .ok (.ifCond .ne 8, 3) := by decide +kernel
theorem dX8_set_183 : decode cX8_set 183 = .ok (.bipush 7, 2) := by decide +kernel
theorem dX8_set_185 : decode cX8_set 185 = .ok (.goto 11, 3) := by decide +kernel
theorem dX8_set_188 : decode cX8_set 188 = .ok (.aload_n 0, 1) := by decide +kernel
theorem dX8_set_189 : decode cX8_set 189 = .ok (.getfield 35, 3) := by decide +kernel
theorem dX8_set_192 : decode cX8_set 192 = .ok (.iconst 1, 1) := by decide +kernel
theorem dX8_set_193 : decode cX8_set 193 = .ok (.iaload, 1) := by decide +kernel
theorem dX8_set_194 : decode cX8_set 194 = .ok (.iconst 1, 1) := by decide +kernel
theorem dX8_set_195 : decode cX8_set 195 = .ok (.isub, 1) := by decide +kernel
theorem dX8_set_196 : decode cX8_set 196 = .ok (.istore_n 3, 1) := by decide +kernel
theorem dX8_set_197 : decode cX8_set 197 = .ok (.iload_n 2, 1) := by decide +kernel
theorem dX8_set_198 : decode cX8_set 198 = .ok (.iconst 1, 1) := by decide +kernel
theorem dX8_set_199 : decode cX8_set 199 = .ok (.isub, 1) := by decide +kernel
theorem dX8_set_200 : decode cX8_set 200 = .ok (.iload_n 3, 1) := by decide +kernel
theorem dX8_set_201 : decode cX8_set 201 = .ok (.if_icmp .ge 159, 3) := by decide +kernel
theorem dX8_set_204 : decode cX8_set 204 = .ok (.iload_n 3, 1) := by decide +kernel
theorem dX8_set_205 : decode cX8_set 205 = .ok (.bipush 8, 2) := by decide +kernel
theorem dX8_set_207 : decode cX8_set 207 = .ok (.if_icmp .ge 153, 3) := by decide +kernel
theorem dX8_set_210 : decode cX8_set 210 = .ok (.aload_n 0, 1) := by decide +kernel
theorem dX8_set_211 : decode cX8_set 211 = .ok (.iload_n 2, 1) := by decide +kernel
theorem dX8_set_212 : decode cX8_set 212 = .ok (.iconst 1, 1) := by decide +kernel
theorem dX8_set_213 : decode cX8_set 213 = .ok (.isub, 1) := by decide +kernel
theorem dX8_set_214 : decode cX8_set 214 = .ok (.putfield 59, 3) := by decide +kernel
theorem dX8_set_217 : decode cX8_set 217 = .ok (.aload_n 0, 1) := by decide +kernel
theorem dX8_set_218 : decode cX8_set 218 = .ok (.iload_n 3, 1) := by decide +kernel
theorem dX8_set_219 : decode cX8_set 219 = .ok (.putfield 62, 3) := by decide +kernel
theorem dX8_set_222 : decode cX8_set 222 = .ok (.aload_n 0, 1) := by decide +kernel
theorem dX8_set_223 : decode cX8_set 223 = .ok (.iconst 1, 1) := by decide +kernel
theorem dX8_set_224 : decode cX8_set 224 = .ok (.iconst 0, 1) := by decide +kernel
theorem dX8_set_225 : decode cX8_set 225 = .ok (.invokevirtual 216, 3) := by decide +kernel
theorem dX8_set_228 : decode cX8_set 228 = .ok (.goto 132, 3) := by decide +kernel
theorem dX8_set_231 : decode cX8_set 231 = .ok (.aload_n 0, 1) := by decide +kernel
theorem dX8_set_232 : decode cX8_set 232 = .ok (.invokevirtual 75, 3) := by decide +kernel
theorem dX8_set_235 : decode cX8_set 235 = .ok (.goto 125, 3) := by decide +kernel
theorem dX8_set_238 : decode cX8_set 238 = .ok (.aload_n 0, 1) := by decide +kernel
theorem dX8_set_239 : decode cX8_set 239 = .ok (.invokevirtual 201, 3) := by decide +kernel
theorem dX8_set_242 : decode cX8_set 242 = .ok (.goto 118, 3) := by decide +kernel
theorem dX8_set_245 : decode cX8_set 245 = .ok (.iconst 0, 1) := by decide +kernel
theorem dX8_set_246 : decode cX8_set 246 = .ok (.istore 4, 2) := by decide +kernel
theorem dX8_set_248 : decode cX8_set 248 = .ok (.iload 4, 2) := by decide +kernel
theorem dX8_set_250 : decode cX8_set 250 = .ok (.bipush 12, 2) := by decide +kernel
theorem dX8_set_252 : decode cX8_set 252 = .ok (.if_icmp .ge 45, 3) := by decide +kernel
theorem dX8_set_255 : decode cX8_set 255 = .ok (.aload_n 0, 1) := by decide +kernel
theorem dX8_set_256 : decode cX8_set 256 = .ok (.getfield 35, 3) := by decide +kernel
theorem dX8_set_259 : decode cX8_set 259 = .ok (.iconst 0, 1) := by decide +kernel
theorem dX8_set_260 : decode cX8_set 260 = .ok (.iaload, 1) := by decide +kernel
theorem dX8_set_261 : decode cX8_set 261 = .ok (.iconst 3, 1) := by decide +kernel
theorem dX8_set_262 : decode cX8_set 262 = .ok (.if_icmp .eq 21, 3) := by decide +kernel
theorem dX8_set_265 : decode cX8_set 265 = .ok (.aload_n 0, 1) := by decide +kernel
theorem dX8_set_266 : decode cX8_set 266 = .ok (.getfield 35, 3) := by decide +kernel
theorem dX8_set_269 : decode cX8_set 269 = .ok (.iconst 0, 1) := by decide +kernel
theorem dX8_set_270 : decode cX8_set 270 = .ok (.iaload, 1) := by decide +kernel
theorem dX8_set_271 : decode cX8_set 271 = .ok (.ifCond .ne 20, 3) := by decide +kernel
theorem dX8_set_274 : decode cX8_set 274 = .ok (.iload 4, 2) := by decide +kernel
theorem dX8_set_276 : decode cX8_set 276 = .ok (.aload_n 0, 1) := by decide +kernel
theorem dX8_set_277 : decode cX8_set 277 = .ok (.getfield 99, 3) := by decide +kernel
theorem dX8_set_280 : decode cX8_set 280 = .ok (.if_icmp .ne 11, 3) := by decide +kernel
theorem dX8_set_283 : decode cX8_set 283 = .ok (.aload_n 0, 1) := by decide +kernel
theorem dX8_set_284 : decode cX8_set 284 = .ok (.getfield 22, 3) := by decide +kernel
theorem dX8_set_287 : decode cX8_set 287 = .ok (.iload 4, 2) := by decide +kernel
theorem dX8_set_289 : decode cX8_set 289 = .ok (.iconst 0, 1) := by decide +kernel
theorem dX8_set_290 : decode cX8_set 290 = .ok (.bastore, 1) := by decide +kernel
theorem dX8_set_291 : decode cX8_set 291 = .ok (.iinc 4 1, 3) := by decide +kernel
theorem dX8_set_294 : decode cX8_set 294 = .ok (.goto (-46), 3) := by decide +kernel
theorem dX8_set_297 : decode cX8_set 297 = .ok (.goto 63, 3) := by decide +kernel
theorem dX8_set_300 : decode cX8_set 300 = .ok (.iconst 0, 1) := by decide +kernel
end
section
theorem dX8_set_301 : decode cX8_set 301 = .ok (.istore 4, 2) := by decide +kernel
theorem dX8_set_303 : decode cX8_set 303 = .ok (.iload 4, 2) := by decide +kernel
theorem dX8_set_305 : decode cX8_set 305 = .ok (.aload_n 0, 1) := by decide +kernel
theorem dX8_set_306 : decode cX8_set 306 = .ok (.invokevirtual 213, 3) := by decide +kernel
theorem dX8_set_309 : decode cX8_set 309 = .ok (.if_icmp .ge 35, 3) := by decide +kernel
theorem dX8_set_312 : decode cX8_set 312 = .ok (.aload_n 0, 1) := by decide +kernel
theorem dX8_set_313 : decode cX8_set 313 = .ok (.getfield 35, 3) := by decide +kernel
theorem dX8_set_316 : decode cX8_set 316 = .ok (.iload 4, 2) := by decide +kernel
theorem dX8_set_318 : decode cX8_set 318 = .ok (.iaload, 1) := by decide +kernel
theorem dX8_set_319 : decode cX8_set 319 = .ok (.iconst 4, 1) := by decide +kernel
theorem dX8_set_320 : decode cX8_set 320 = .ok (.if_icmp .ne 18, 3) := by decide +kernel
theorem dX8_set_323 : decode cX8_set 323 = .ok (.aload_n 0, 1) := by decide +kernel
theorem dX8_set_324 : decode cX8_set 324 = .ok (.iload_n 1, 1) := by decide +kernel
theorem dX8_set_325 : decode cX8_set 325 = .ok (.bipush 104, 2) := by decide +kernel
theorem dX8_set_327 : decode cX8_set 327 = .ok (.if_icmp .ne 7, 3) := by decide +kernel
theorem dX8_set_330 : decode cX8_set 330 = .ok (.iconst 1, 1) := by decide +kernel
theorem dX8_set_331 : decode cX8_set 331 = .ok (.goto 4, 3) := by decide +kernel
theorem dX8_set_334 : decode cX8_set 334 = .ok (.iconst 0, 1) := by decide +kernel
theorem dX8_set_335 : decode cX8_set 335 = .ok (.putfield 65, 3) := by decide +kernel
theorem dX8_set_338 : decode cX8_set 338 = .ok (.iinc 4 1, 3) := by decide +kernel
theorem dX8_set_341 : decode cX8_set 341 = .ok (.goto (-38), 3) := by decide +kernel
theorem dX8_set_344 : decode cX8_set 344 = .ok (.goto 16, 3) := by decide +kernel
theorem dX8_set_347 : decode cX8_set 347 = .ok (.aload_n 0, 1) := by decide +kernel
theorem dX8_set_348 : decode cX8_set 348 = .ok (.aload_n 0, 1) := by decide +kernel
theorem dX8_set_349 : decode cX8_set 349 = .ok (.getfield 35, 3) := by decide +kernel
theorem dX8_set_352 : decode cX8_set 352 = .ok (.iconst 0, 1) := by decide +kernel
theorem dX8_set_353 : decode cX8_set 353 = .ok (.iaload, 1) := by decide +kernel
theorem dX8_set_354 : decode cX8_set 354 = .ok (.invokevirtual 245, 3) := by decide +kernel
theorem dX8_set_357 : decode cX8_set 357 = .ok (.goto 3, 3) := by decide +kernel
theorem dX8_set_360 : decode cX8_set 360 = .ok (.return_, 1) := by decide +kernel
theorem dX8_dip_0 : decode cX8_dip 0 = .ok (.iload_n 1, 1) := by decide +kernel
theorem dX8_dip_1 : decode cX8_dip 1 = .ok (.ifCond .ne 8, 3) := by decide +kernel
theorem dX8_dip_4 : decode cX8_dip 4 = .ok (.aload_n 0, 1) := by decide +kernel
theorem dX8_dip_5 : decode cX8_dip 5 = .ok (.iconst 0, 1) := by decide +kernel
theorem dX8_dip_6 : decode cX8_dip 6 = .ok (.invokevirtual 56, 3) := by decide +kernel
theorem dX8_dip_9 : decode cX8_dip 9 = .ok (.iload_n 1, 1) := by decide +kernel
theorem dX8_dip_10 : decode cX8_dip 10 = .ok (.iconst 1, 1) := by decide +kernel
theorem dX8_dip_11 : decode cX8_dip 11 = .ok (.if_icmp .eq 9, 3) := by decide +kernel
theorem dX8_dip_14 : decode cX8_dip 14 = .ok (.iload_n 1, 1) := by decide +kernel
theorem dX8_dip_15 : decode cX8_dip 15 = .ok (.bipush 22, 2) := by decide +kernel
theorem dX8_dip_17 : decode cX8_dip 17 = .ok (.if_icmp .ne 17, 3) := by decide +kernel
theorem dX8_dip_20 : decode cX8_dip 20 = .ok (.aload_n 0, 1) := by decide +kernel
theorem dX8_dip_21 : decode cX8_dip 21 = .ok (.iload_n 1, 1) := by decide +kernel
theorem dX8_dip_22 : decode cX8_dip 22 = .ok (.iconst 1, 1) := by decide +kernel
theorem dX8_dip_23 : decode cX8_dip 23 = .ok (.if_icmp .ne 7, 3) := by decide +kernel
theorem dX8_dip_26 : decode cX8_dip 26 = .ok (.iconst 1, 1) := by decide +kernel
theorem dX8_dip_27 : decode cX8_dip 27 = .ok (.goto 4, 3) := by decide +kernel
theorem dX8_dip_30 : decode cX8_dip 30 = .ok (.iconst 0, 1) := by decide +kernel
theorem dX8_dip_31 : decode cX8_dip 31 = .ok (.putfield 105, 3) := by decide +kernel
theorem dX8_dip_34 : decode cX8_dip 34 = .ok (.iload_n 1, 1) := by decide +kernel
theorem dX8_dip_35 : decode cX8_dip 35 = .ok (.iconst 4, 1) := by decide +kernel
theorem dX8_dip_36 : decode cX8_dip 36 = .ok (.if_icmp .eq 9, 3) := by decide +kernel
theorem dX8_dip_39 : decode cX8_dip 39 = .ok (.iload_n 1, 1) := by decide +kernel
theorem dX8_dip_40 : decode cX8_dip 40 = .ok (.bipush 24, 2) := by decide +kernel
theorem dX8_dip_42 : decode cX8_dip 42 = .ok (.if_icmp .ne 17, 3) := by decide +kernel
theorem dX8_dip_45 : decode cX8_dip 45 = .ok (.aload_n 0, 1) := by decide +kernel
theorem dX8_dip_46 : decode cX8_dip 46 = .ok (.iload_n 1, 1) := by decide +kernel
theorem dX8_dip_47 : decode cX8_dip 47 = .ok (.iconst 4, 1) := by decide +kernel
theorem dX8_dip_48 : decode cX8_dip 48 = .ok (.if_icmp .ne 7, 3) := by decide +kernel
theorem dX8_dip_51 : decode cX8_dip 51 = .ok (.iconst 1, 1) := by decide +kernel
theorem dX8_dip_52 : decode cX8_dip 52 = .ok (.goto 4, 3) := by decide +kernel
theorem dX8_dip_55 : decode cX8_dip 55 = .ok (.iconst 0, 1) := by decide +kernel
theorem dX8_dip_56 : decode cX8_dip 56 = .ok (.putfield 108, 3) := by decide +kernel
theorem dX8_dip_59 : decode cX8_dip 59 = .ok (.iload_n 1, 1) := by decide +kernel
theorem dX8_dip_60 : decode cX8_dip 60 = .ok (.bipush 7, 2) := by decide +kernel
theorem dX8_dip_62 : decode cX8_dip 62 = .ok (.if_icmp .eq 9, 3) := by decide +kernel
theorem dX8_dip_65 : decode cX8_dip 65 = .ok (.iload_n 1, 1) := by decide +kernel
theorem dX8_dip_66 : decode cX8_dip 66 = .ok (.bipush 27, 2) := by decide +kernel
theorem dX8_dip_68 : decode cX8_dip 68 = .ok (.if_icmp .ne 18, 3) := by decide +kernel
theorem dX8_dip_71 : decode cX8_dip 71 = .ok (.aload_n 0, 1) := by decide +kernel
theorem dX8_dip_72 : decode cX8_dip 72 = .ok (.iload_n 1, 1) := by decide +kernel
theorem dX8_dip_73 : decode cX8_dip 73 = .ok (.bipush 7, 2) := by decide +kernel
theorem dX8_dip_75 : decode cX8_dip 75 = .ok (.if_icmp .ne 7, 3) := by decide +kernel
theorem dX8_dip_78 : decode cX8_dip 78 = .ok (.iconst 1, 1) := by decide +kernel
theorem dX8_dip_79 : decode cX8_dip 79 = .ok (.goto 4, 3) := by decide +kernel
theorem dX8_dip_82 : decode cX8_dip 82 = .ok (.iconst 0, 1) := by decide +kernel
theorem dX8_dip_83 : decode cX8_dip 83 = .ok (.putfield 111, 3) := by decide +kernel
theorem dX8_dip_86 : decode cX8_dip 86 = .ok (.iload_n 1, 1) := by decide +kernel
theorem dX8_dip_87 : decode cX8_dip 87 = .ok (.bipush 30, 2) := by decide +kernel
theorem dX8_dip_89 : decode cX8_dip 89 = .ok (.if_icmp .lt 17, 3) := by decide +kernel
theorem dX8_dip_92 : decode cX8_dip 92 = .ok (.iload_n 1, 1) := by decide +kernel
theorem dX8_dip_93 : decode cX8_dip 93 = .ok (.bipush 37, 2) := by decide +kernel
theorem dX8_dip_95 : decode cX8_dip 95 = .ok (.if_icmp .gt 11, 3) := by decide +kernel
theorem dX8_dip_98 : decode cX8_dip 98 = .ok (.aload_n 0, 1) := by decide +kernel
theorem dX8_dip_99 : decode cX8_dip 99 = .ok (.iload_n 1, 1) := by decide +kernel
theorem dX8_dip_100 : decode cX8_dip 100 = .ok (.bipush 29, 2) := by decide +kernel
theorem dX8_dip_102 : decode cX8_dip 102 = .ok (.isub, 1) := by decide +kernel
theorem dX8_dip_103 : decode cX8_dip 103 = .ok (.putfield 114, 3) := by decide +kernel
theorem dX8_dip_106 : decode cX8_dip 106 = .ok (.iload_n 1, 1) := by decide +kernel
theorem dX8_dip_107 : decode cX8_dip 107 = .ok (.bipush 39, 2) := by decide +kernel
theorem dX8_dip_109 : decode cX8_dip 109 = .ok (.if_icmp .ne 8, 3) := by decide +kernel
theorem dX8_dip_112 : decode cX8_dip 112 = .ok (.aload_n 0, 1) := by decide +kernel
theorem dX8_dip_113 : decode cX8_dip 113 = .ok (.iconst 0, 1) := by decide +kernel
theorem dX8_dip_114 : decode cX8_dip 114 = .ok (.putfield 114, 3) := by decide +kernel
theorem dX8_dip_117 : decode cX8_dip 117 = .ok (.iload_n 1, 1) := by decide +kernel
theorem dX8_dip_118 : decode cX8_dip 118 = .ok (.bipush 40, 2) := by decide +kernel
theorem dX8_dip_120 : decode cX8_dip 120 = .ok (.if_icmp .lt 17, 3) := by decide +kernel
theorem dX8_dip_123 : decode cX8_dip 123 = .ok (.iload_n 1, 1) := by decide +kernel
theorem dX8_dip_124 : decode cX8_dip 124 = .ok (.bipush 47, 2) := by decide +kernel
theorem dX8_dip_126 : decode cX8_dip 126 = .ok (.if_icmp .gt 11, 3) := by decide +kernel
theorem dX8_dip_129 : decode cX8_dip 129 = .ok (.aload_n 0, 1) := by decide +kernel
theorem dX8_dip_130 : decode cX8_dip 130 = .ok (.iload_n 1, 1) := by decide +kernel
theorem dX8_dip_131 : decode cX8_dip 131 = .ok (.bipush 39, 2) := by decide +kernel
theorem dX8_dip_133 : decode cX8_dip 133 = .ok (.isub, 1) := by decide +kernel
theorem dX8_dip_134 : decode cX8_dip 134 = .ok (.putfield 117, 3) := by decide +kernel
theorem dX8_dip_137 : decode cX8_dip 137 = .ok (.iload_n 1, 1) := by decide +kernel
theorem dX8_dip_138 : decode cX8_dip 138 = .ok (.bipush 49, 2) := by decide +kernel
theorem dX8_dip_140 : decode cX8_dip 140 = .ok (.if_icmp .ne 8, 3) := by decide +kernel
theorem dX8_dip_143 : decode cX8_dip 143 = .ok (.aload_n 0, 1) := by decide +kernel
theorem dX8_dip_144 : decode cX8_dip 144 = .ok (.iconst 0, 1) := by decide +kernel
theorem dX8_dip_145 : decode cX8_dip 145 = .ok (.putfield 117, 3) := by decide +kernel
theorem dX8_dip_148 : decode cX8_dip 148 = .ok (.return_, 1) := by decide +kernel
theorem dX8_answer_0 : decode cX8_answer 0 = .ok (.iload_n 1, 1) := by decide +kernel
theorem dX8_answer_1 : decode cX8_answer 1 = .ok (.iconst 5, 1) := by decide +kernel
theorem dX8_answer_2 : decode cX8_answer 2 = .ok (.if_icmp .ne 38, 3) := by decide +kernel
theorem dX8_answer_5 : decode cX8_answer 5 = .ok (.aload_n 0, 1) := by decide +kernel
theorem dX8_answer_6 : decode cX8_answer 6 = .ok (.getfield 84, 3) := by decide +kernel
theorem dX8_answer_9 : decode cX8_answer 9 = .ok (.iconst 4, 1) := by decide +kernel
theorem dX8_answer_10 : decode cX8_answer 10 = .ok (.iadd, 1) := by decide +kernel
theorem dX8_answer_11 : decode cX8_answer 11 = .ok (.bipush 64, 2) := by decide +kernel
theorem dX8_answer_13 : decode cX8_answer 13 = .ok (.if_icmp .gt 27, 3) := by decide +kernel
theorem dX8_answer_16 : decode cX8_answer 16 = .ok (.aload_n 0, 1) := by decide +kernel
theorem dX8_answer_17 : decode cX8_answer 17 = .ok (.bipush 27, 2) := by decide +kernel
theorem dX8_answer_19 : decode cX8_answer 19 = .ok (.invokevirtual 248, 3) := by decide +kernel
theorem dX8_answer_22 : decode cX8_answer 22 = .ok (.aload_n 0, 1) := by decide +kernel
theorem dX8_answer_23 : decode cX8_answer 23 = .ok (.bipush 91, 2) := by decide +kernel
theorem dX8_answer_25 : decode cX8_answer 25 = .ok (.invokevirtual 248, 3) := by decide +kernel
theorem dX8_answer_28 : decode cX8_answer 28 = .ok (.aload_n 0, 1) := by decide +kernel
theorem dX8_answer_29 : decode cX8_answer 29 = .ok (.bipush 48, 2) := by decide +kernel
theorem dX8_answer_31 : decode cX8_answer 31 = .ok (.invokevirtual 248, 3) := by decide +kernel
theorem dX8_answer_34 : decode cX8_answer 34 = .ok (.aload_n 0, 1) := by decide +kernel
theorem dX8_answer_35 : decode cX8_answer 35 = .ok (.bipush 110, 2) := by decide +kernel
theorem dX8_answer_37 : decode cX8_answer 37 = .ok (.invokevirtual 248, 3) := by decide +kernel
theorem dX8_answer_40 : decode cX8_answer 40 = .ok (.iload_n 1, 1) := by decide +kernel
theorem dX8_answer_41 : decode cX8_answer 41 = .ok (.bipush 6, 2) := by decide +kernel
theorem dX8_answer_43 : decode cX8_answer 43 = .ok (.if_icmp .eq 4, 3) := by decide +kernel
theorem dX8_answer_46 : decode cX8_answer 46 = .ok (.return_, 1) := by decide +kernel
theorem dX8_answer_47 : decode cX8_answer 47 = .ok (.aload_n 0, 1) := by decide +kernel
theorem dX8_answer_48 : decode cX8_answer 48 = .ok (.getfield 69, 3) := by decide +kernel
theorem dX8_answer_51 : decode cX8_answer 51 = .ok (.ifCond .ne 12, 3) := by decide +kernel
theorem dX8_answer_54 : decode cX8_answer 54 = .ok (.aload_n 0, 1) := by decide +kernel
theorem dX8_answer_55 : decode cX8_answer 55 = .ok (.getfield 96, 3) := by decide +kernel
theorem dX8_answer_58 : decode cX8_answer 58 = .ok (.iconst 1, 1) := by decide +kernel
theorem dX8_answer_59 : decode cX8_answer 59 = .ok (.iadd, 1) := by decide +kernel
theorem dX8_answer_60 : decode cX8_answer 60 = .ok (.goto 29, 3) := by decide +kernel
theorem dX8_answer_63 : decode cX8_answer 63 = .ok (.aload_n 0, 1) := by decide +kernel
theorem dX8_answer_64 : decode cX8_answer 64 = .ok (.getfield 96, 3) := by decide +kernel
theorem dX8_answer_67 : decode cX8_answer 67 = .ok (.aload_n 0, 1) := by decide +kernel
theorem dX8_answer_68 : decode cX8_answer 68 = .ok (.getfield 59, 3) := by decide +kernel
theorem dX8_answer_71 : decode cX8_answer 71 = .ok (.if_icmp .ge 7, 3) := by decide +kernel
theorem dX8_answer_74 : decode cX8_answer 74 = .ok (.iconst 0, 1) := by decide +kernel
theorem dX8_answer_75 : decode cX8_answer 75 = .ok (.goto 14, 3) := by decide +kernel
theorem dX8_answer_78 : decode cX8_answer 78 = .ok (.aload_n 0, 1) := by decide +kernel
theorem dX8_answer_79 : decode cX8_answer 79 = .ok (.getfield 96, 3) := by decide +kernel
theorem dX8_answer_82 : decode cX8_answer 82 = .ok (.aload_n 0, 1) := by decide +kernel
theorem dX8_answer_83 : decode cX8_answer 83 = .ok (.getfield 59, 3) := by decide +kernel
theorem dX8_answer_86 : decode cX8_answer 86 = .ok (.isub, 1) := by decide +kernel
theorem dX8_answer_87 : decode cX8_answer 87 = .ok (.iconst 1, 1) := by decide +kernel
theorem dX8_answer_88 : decode cX8_answer 88 = .ok (.iadd, 1) := by decide +kernel
theorem dX8_answer_89 : decode cX8_answer 89 = .ok (.istore_n 2, 1) := by decide +kernel
theorem dX8_answer_90 : decode cX8_answer 90 = .ok (.bipush 6, 2) := by decide +kernel
theorem dX8_answer_92 : decode cX8_answer 92 = .ok (.aload_n 0, 1) := by decide +kernel
theorem dX8_answer_93 : decode cX8_answer 93 = .ok (.getfield 99, 3) := by decide +kernel
theorem dX8_answer_96 : decode cX8_answer 96 = .ok (.iconst 1, 1) := by decide +kernel
theorem dX8_answer_97 : decode cX8_answer 97 = .ok (.iadd, 1) := by decide +kernel
theorem dX8_answer_98 : decode cX8_answer 98 = .ok (.bipush 9, 2) := by decide +kernel
theorem dX8_answer_100 : decode cX8_answer 100 = .ok (.if_icmp .le 7, 3) := by decide +kernel
theorem dX8_answer_103 : decode cX8_answer 103 = .ok (.iconst 1, 1) := by decide +kernel
theorem dX8_answer_104 : decode cX8_answer 104 = .ok (.goto 4, 3) := by decide +kernel
theorem dX8_answer_107 : decode cX8_answer 107 = .ok (.iconst 0, 1) := by decide +kernel
theorem dX8_answer_108 : decode cX8_answer 108 = .ok (.iadd, 1) := by decide +kernel
theorem dX8_answer_109 : decode cX8_answer 109 = .ok (.istore_n 3, 1) := by decide +kernel
theorem dX8_answer_110 : decode cX8_answer 110 = .ok (.aload_n 0, 1) := by decide +kernel
theorem dX8_answer_111 : decode cX8_answer 111 = .ok (.getfield 84, 3) := by decide +kernel
theorem dX8_answer_114 : decode cX8_answer 114 = .ok (.iload_n 3, 1) := by decide +kernel
theorem dX8_answer_115 : decode cX8_answer 115 = .ok (.iadd, 1) := by decide +kernel
theorem dX8_answer_116 : decode cX8_answer 116 = .ok (.bipush 64, 2) := by decide +kernel
theorem dX8_answer_118 : decode cX8_answer 118 = .ok (.if_icmp .le 4, 3) := by decide +kernel
theorem dX8_answer_121 : decode cX8_answer 121 = .ok (.return_, 1) := by decide +kernel
theorem dX8_answer_122 : decode cX8_answer 122 = .ok (.aload_n 0, 1) := by decide +kernel
theorem dX8_answer_123 : decode cX8_answer 123 = .ok (.bipush 27, 2) := by decide +kernel
theorem dX8_answer_125 : decode cX8_answer 125 = .ok (.invokevirtual 248, 3) := by decide +kernel
theorem dX8_answer_128 : decode cX8_answer 128 = .ok (.aload_n 0, 1) := by decide +kernel
theorem dX8_answer_129 : decode cX8_answer 129 = .ok (.bipush 91, 2) := by decide +kernel
theorem dX8_answer_131 : decode cX8_answer 131 = .ok (.invokevirtual 248, 3) := by decide +kernel
theorem dX8_answer_134 : decode cX8_answer 134 = .ok (.aload_n 0, 1) := by decide +kernel
theorem dX8_answer_135 : decode cX8_answer 135 = .ok (.bipush 48, 2) := by decide +kernel
theorem dX8_answer_137 : decode cX8_answer 137 = .ok (.iload_n 2, 1) := by decide +kernel
theorem dX8_answer_138 : decode cX8_answer 138 = .ok (.iadd, 1) := by decide +kernel
theorem dX8_answer_139 : decode cX8_answer 139 = .ok (.invokevirtual 248, 3) := by decide +kernel
theorem dX8_answer_142 : decode cX8_answer 142 = .ok (.aload_n 0, 1) := by decide +kernel
theorem dX8_answer_143 : decode cX8_answer 143 = .ok (.bipush 59, 2) := by decide +kernel
theorem dX8_answer_145 : decode cX8_answer 145 = .ok (.invokevirtual 248, 3) := by decide +kernel
theorem dX8_answer_148 : decode cX8_answer 148 = .ok (.aload_n 0, 1) := by decide +kernel
theorem dX8_answer_149 : decode cX8_answer 149 = .ok (.getfield 99, 3) := by decide +kernel
theorem dX8_answer_152 : decode cX8_answer 152 = .ok (.iconst 1, 1) := by decide +kernel
theorem dX8_answer_153 : decode cX8_answer 153 = .ok (.iadd, 1) := by decide +kernel
theorem dX8_answer_154 : decode cX8_answer 154 = .ok (.bipush 9, 2) := by decide +kernel
theorem dX8_answer_156 : decode cX8_answer 156 = .ok (.if_icmp .le 19, 3) := by decide +kernel
theorem dX8_answer_159 : decode cX8_answer 159 = .ok (.aload_n 0, 1) := by decide +kernel
theorem dX8_answer_160 : decode cX8_answer 160 = .ok (.bipush 48, 2) := by decide +kernel
theorem dX8_answer_162 : decode cX8_answer 162 = .ok (.aload_n 0, 1) := by decide +kernel
theorem dX8_answer_163 : decode cX8_answer 163 = .ok (.getfield 99, 3) := by decide +kernel
theorem dX8_answer_166 : decode cX8_answer 166 = .ok (.iconst 1, 1) := by decide +kernel
theorem dX8_answer_167 : decode cX8_answer 167 = .ok (.iadd, 1) := by decide +kernel
theorem dX8_answer_168 : decode cX8_answer 168 = .ok (.bipush 10, 2) := by decide +kernel
theorem dX8_answer_170 : decode cX8_answer 170 = .ok (.idiv, 1) := by decide +kernel
theorem dX8_answer_171 : decode cX8_answer 171 = .ok (.iadd, 1) := by decide +kernel
theorem dX8_answer_172 : decode cX8_answer 172 = .ok (.invokevirtual 248, 3) := by decide +kernel
theorem dX8_answer_175 : decode cX8_answer 175 = .ok (.aload_n 0, 1) := by decide +kernel
theorem dX8_answer_176 : decode cX8_answer 176 = .ok (.bipush 48, 2) := by decide +kernel
theorem dX8_answer_178 : decode cX8_answer 178 = .ok (.aload_n 0, 1) := by decide +kernel
theorem dX8_answer_179 : decode cX8_answer 179 = .ok (.getfield 99, 3) := by decide +kernel
theorem dX8_answer_182 : decode cX8_answer 182 = .ok (.iconst 1, 1) := by decide +kernel
theorem dX8_answer_183 : decode cX8_answer 183 = .ok (.iadd, 1) := by decide +kernel
theorem dX8_answer_184 : decode cX8_answer 184 = .ok (.bipush 10, 2) := by decide +kernel
theorem dX8_answer_186 : decode cX8_answer 186 = .ok (.irem, 1) := by decide +kernel
theorem dX8_answer_187 : decode cX8_answer 187 = .ok (.iadd, 1) := by decide +kernel
theorem dX8_answer_188 : decode cX8_answer 188 = .ok (.invokevirtual 248, 3) := by decide +kernel
theorem dX8_answer_191 : decode cX8_answer 191 = .ok (.aload_n 0, 1) := by decide +kernel
theorem dX8_answer_192 : decode cX8_answer 192 = .ok (.bipush 82, 2) := by decide +kernel
theorem dX8_answer_194 : decode cX8_answer 194 = .ok (.invokevirtual 248, 3) := by decide +kernel
theorem dX8_answer_197 : decode cX8_answer 197 = .ok (.return_, 1) := by decide +kernel
theorem dX8_put_0 : decode cX8_put 0 = .ok (.aload_n 0, 1) := by decide +kernel
theorem dX8_put_1 : decode cX8_put 1 = .ok (.getfield 26, 3) := by decide +kernel
theorem dX8_put_4 : decode cX8_put 4 = .ok (.aload_n 0, 1) := by decide +kernel
theorem dX8_put_5 : decode cX8_put 5 = .ok (.getfield 84, 3) := by decide +kernel
theorem dX8_put_8 : decode cX8_put 8 = .ok (.iload_n 1, 1) := by decide +kernel
theorem dX8_put_9 : decode cX8_put 9 = .ok (.iastore, 1) := by decide +kernel
theorem dX8_put_10 : decode cX8_put 10 = .ok (.aload_n 0, 1) := by decide +kernel
theorem dX8_put_11 : decode cX8_put 11 = .ok (.aload_n 0, 1) := by decide +kernel
theorem dX8_put_12 : decode cX8_put 12 = .ok (.getfield 84, 3) := by decide +kernel
theorem dX8_put_15 : decode cX8_put 15 = .ok (.iconst 1, 1) := by decide +kernel
theorem dX8_put_16 : decode cX8_put 16 = .ok (.iadd, 1) := by decide +kernel
theorem dX8_put_17 : decode cX8_put 17 = .ok (.putfield 84, 3) := by decide +kernel
theorem dX8_put_20 : decode cX8_put 20 = .ok (.return_, 1) := by decide +kernel
theorem dX8_row_0 : decode cX8_row 0 = .ok (.aload_n 0, 1) := by decide +kernel
theorem dX8_row_1 : decode cX8_row 1 = .ok (.iconst 0, 1) := by decide +kernel
theorem dX8_row_2 : decode cX8_row 2 = .ok (.putfield 41, 3) := by decide +kernel
theorem dX8_row_5 : decode cX8_row 5 = .ok (.aload_n 0, 1) := by decide +kernel
theorem dX8_row_6 : decode cX8_row 6 = .ok (.getfield 96, 3) := by decide +kernel
theorem dX8_row_9 : decode cX8_row 9 = .ok (.ireturn, 1) := by decide +kernel
theorem dX8_column_0 : decode cX8_column 0 = .ok (.aload_n 0, 1) := by decide +kernel
theorem dX8_column_1 : decode cX8_column 1 = .ok (.iconst 0, 1) := by decide +kernel
theorem dX8_column_2 : decode cX8_column 2 = .ok (.putfield 41, 3) := by decide +kernel
theorem dX8_column_5 : decode cX8_column 5 = .ok (.aload_n 0, 1) := by decide +kernel
theorem dX8_column_6 : decode cX8_column 6 = .ok (.getfield 99, 3) := by decide +kernel
theorem dX8_column_9 : decode cX8_column 9 = .ok (.ireturn, 1) := by decide +kernel
theorem dX8_full_0 : decode cX8_full 0 = .ok (.aload_n 0, 1) := by decide +kernel
theorem dX8_full_1 : decode cX8_full 1 = .ok (.iconst 0, 1) := by decide +kernel
theorem dX8_full_2 : decode cX8_full 2 = .ok (.putfield 41, 3) := by decide +kernel
theorem dX8_full_5 : decode cX8_full 5 = .ok (.aload_n 0, 1) := by decide +kernel
theorem dX8_full_6 : decode cX8_full 6 = .ok (.getfield 102, 3) := by decide +kernel
theorem dX8_full_9 : decode cX8_full 9 = .ok (.ireturn, 1) := by decide +kernel
theorem dX8_pen_0 : decode cX8_pen 0 = .ok (.aload_n 0, 1) := by decide +kernel
theorem dX8_pen_1 : decode cX8_pen 1 = .ok (.iconst 0, 1) := by decide +kernel
theorem dX8_pen_2 : decode cX8_pen 2 = .ok (.putfield 41, 3) := by decide +kernel
theorem dX8_pen_5 : decode cX8_pen 5 = .ok (.aload_n 0, 1) := by decide +kernel
theorem dX8_pen_6 : decode cX8_pen 6 = .ok (.invokevirtual 129, 3) := by decide +kernel
theorem dX8_pen_9 : decode cX8_pen 9 = .ok (.ireturn, 1) := by decide +kernel
theorem dX8_mode_0 : decode cX8_mode 0 = .ok (.aload_n 0, 1) := by decide +kernel
theorem dX8_mode_1 : decode cX8_mode 1 = .ok (.iconst 0, 1) := by decide +kernel
theorem dX8_mode_2 : decode cX8_mode 2 = .ok (.putfield 41, 3) := by decide +kernel
theorem dX8_mode_5 : decode cX8_mode 5 = .ok (.iload_n 1, 1) := by decide +kernel
theorem dX8_mode_6 : decode cX8_mode 6 = .ok (.ifCond .ne 10, 3) := by decide +kernel
theorem dX8_mode_9 : decode cX8_mode 9 = .ok (.aload_n 0, 1) := by decide +kernel
theorem dX8_mode_10 : decode cX8_mode 10 = .ok (.getfield 65, 3) := by decide +kernel
theorem dX8_mode_13 : decode cX8_mode 13 = .ok (.goto 40, 3) := by decide +kernel
theorem dX8_mode_16 : decode cX8_mode 16 = .ok (.iload_n 1, 1) := by decide +kernel
theorem dX8_mode_17 : decode cX8_mode 17 = .ok (.iconst 1, 1) := by decide +kernel
theorem dX8_mode_18 : decode cX8_mode 18 = .ok (.if_icmp .ne 10, 3) := by decide +kernel
theorem dX8_mode_21 : decode cX8_mode 21 = .ok (.aload_n 0, 1) := by decide +kernel
theorem dX8_mode_22 : decode cX8_mode 22 = .ok (.getfield 69, 3) := by decide +kernel
theorem dX8_mode_25 : decode cX8_mode 25 = .ok (.goto 28, 3) := by decide +kernel
theorem dX8_mode_28 : decode cX8_mode 28 = .ok (.iload_n 1, 1) := by decide +kernel
theorem dX8_mode_29 : decode cX8_mode 29 = .ok (.iconst 2, 1) := by decide +kernel
theorem dX8_mode_30 : decode cX8_mode 30 = .ok (.if_icmp .ne 10, 3) := by decide +kernel
theorem dX8_mode_33 : decode cX8_mode 33 = .ok (.aload_n 0, 1) := by decide +kernel
theorem dX8_mode_34 : decode cX8_mode 34 = .ok (.getfield 72, 3) := by decide +kernel
theorem dX8_mode_37 : decode cX8_mode 37 = .ok (.goto 16, 3) := by decide +kernel
theorem dX8_mode_40 : decode cX8_mode 40 = .ok (.aload_n 0, 1) := by decide +kernel
theorem dX8_mode_41 : decode cX8_mode 41 = .ok (.getfield 49, 3) := by decide +kernel
theorem dX8_mode_44 : decode cX8_mode 44 = .ok (.iconst 1, 1) := by decide +kernel
theorem dX8_mode_45 : decode cX8_mode 45 = .ok (.if_icmp .ne 7, 3) := by decide +kernel
theorem dX8_mode_48 : decode cX8_mode 48 = .ok (.iconst 1, 1) := by decide +kernel
theorem dX8_mode_49 : decode cX8_mode 49 = .ok (.goto 4, 3) := by decide +kernel
theorem dX8_mode_52 : decode cX8_mode 52 = .ok (.iconst 0, 1) := by decide +kernel
theorem dX8_mode_53 : decode cX8_mode 53 = .ok (.istore_n 2, 1) := by decide +kernel
theorem dX8_mode_54 : decode cX8_mode 54 = .ok (.iload_n 1, 1) := by decide +kernel
theorem dX8_mode_55 : decode cX8_mode 55 = .ok (.ifCond .lt 8, 3) := by decide +kernel
theorem dX8_mode_58 : decode cX8_mode 58 = .ok (.iload_n 1, 1) := by decide +kernel
theorem dX8_mode_59 : decode cX8_mode 59 = .ok (.iconst 3, 1) := by decide +kernel
theorem dX8_mode_60 : decode cX8_mode 60 = .ok (.if_icmp .le 7, 3) := by decide +kernel
theorem dX8_mode_63 : decode cX8_mode 63 = .ok (.iconst (-1), 1) := by decide +kernel
theorem dX8_mode_64 : decode cX8_mode 64 = .ok (.goto 12, 3) := by decide +kernel
theorem dX8_mode_67 : decode cX8_mode 67 = .ok (.iload_n 2, 1) := by decide +kernel
theorem dX8_mode_68 : decode cX8_mode 68 = .ok (.ifCond .eq 7, 3) := by decide +kernel
theorem dX8_mode_71 : decode cX8_mode 71 = .ok (.iconst 1, 1) := by decide +kernel
theorem dX8_mode_72 : decode cX8_mode 72 = .ok (.goto 4, 3) := by decide +kernel
theorem dX8_mode_75 : decode cX8_mode 75 = .ok (.iconst 0, 1) := by decide +kernel
theorem dX8_mode_76 : decode cX8_mode 76 = .ok (.ireturn, 1) := by decide +kernel
theorem dX8_region_0 : decode cX8_region 0 = .ok (.aload_n 0, 1) := by decide +kernel
theorem dX8_region_1 : decode cX8_region 1 = .ok (.iconst 0, 1) := by decide +kernel
theorem dX8_region_2 : decode cX8_region 2 = .ok (.putfield 41, 3) := by decide +kernel
theorem dX8_region_5 : decode cX8_region 5 = .ok (.bipush 8, 2) := by decide +kernel
theorem dX8_region_7 : decode cX8_region 7 = .ok (.aload_n 0, 1) := by decide +kernel
theorem dX8_region_8 : decode cX8_region 8 = .ok (.getfield 59, 3) := by decide +kernel
theorem dX8_region_11 : decode cX8_region 11 = .ok (.imul, 1) := by decide +kernel
theorem dX8_region_12 : decode cX8_region 12 = .ok (.aload_n 0, 1) := by decide +kernel
theorem dX8_region_13 : decode cX8_region 13 = .ok (.getfield 62, 3) := by decide +kernel
theorem dX8_region_16 : decode cX8_region 16 = .ok (.iadd, 1) := by decide +kernel
theorem dX8_region_17 : decode cX8_region 17 = .ok (.ireturn, 1) := by decide +kernel
theorem dX8_tab_0 : decode cX8_tab 0 = .ok (.aload_n 0, 1) := by decide +kernel
theorem dX8_tab_1 : decode cX8_tab 1 = .ok (.iconst 0, 1) := by decide +kernel
theorem dX8_tab_2 : decode cX8_tab 2 = .ok (.putfield 41, 3) := by decide +kernel
theorem dX8_tab_5 : decode cX8_tab 5 = .ok (.iload_n 1, 1) := by decide +kernel
theorem dX8_tab_6 : decode cX8_tab 6 = .ok (.ifCond .lt 22, 3) := by decide +kernel
theorem dX8_tab_9 : decode cX8_tab 9 = .ok (.iload_n 1, 1) := by decide +kernel
theorem dX8_tab_10 : decode cX8_tab 10 = .ok (.bipush 12, 2) := by decide +kernel
theorem dX8_tab_12 : decode cX8_tab 12 = .ok (.if_icmp .ge 16, 3) := by decide +kernel
theorem dX8_tab_15 : decode cX8_tab 15 = .ok (.aload_n 0, 1) := by decide +kernel
theorem dX8_tab_16 : decode cX8_tab 16 = .ok (.getfield 22, 3) := by decide +kernel
theorem dX8_tab_19 : decode cX8_tab 19 = .ok (.iload_n 1, 1) := by decide +kernel
theorem dX8_tab_20 : decode cX8_tab 20 = .ok (.baload, 1) := by decide +kernel
theorem dX8_tab_21 : decode cX8_tab 21 = .ok (.ifCond .eq 7, 3) := by decide +kernel
theorem dX8_tab_24 : decode cX8_tab 24 = .ok (.iconst 1, 1) := by decide +kernel
theorem dX8_tab_25 : decode cX8_tab 25 = .ok (.goto 4, 3) := by decide +kernel
theorem dX8_tab_28 : decode cX8_tab 28 = .ok (.iconst 0, 1) := by decide +kernel
theorem dX8_tab_29 : decode cX8_tab 29 = .ok (.ireturn, 1) := by decide +kernel
theorem dX8_bells_0 : decode cX8_bells 0 = .ok (.aload_n 0, 1) := by decide +kernel
theorem dX8_bells_1 : decode cX8_bells 1 = .ok (.iconst 0, 1) := by decide +kernel
theorem dX8_bells_2 : decode cX8_bells 2 = .ok (.putfield 41, 3) := by decide +kernel
theorem dX8_bells_5 : decode cX8_bells 5 = .ok (.aload_n 0, 1) := by decide +kernel
theorem dX8_bells_6 : decode cX8_bells 6 = .ok (.getfield 81, 3) := by decide +kernel
theorem dX8_bells_9 : decode cX8_bells 9 = .ok (.ireturn, 1) := by decide +kernel
theorem dX8_state_0 : decode cX8_state 0 = .ok (.aload_n 0, 1) := by decide +kernel
theorem dX8_state_1 : decode cX8_state 1 = .ok (.iconst 0, 1) := by decide +kernel
theorem dX8_state_2 : decode cX8_state 2 = .ok (.putfield 41, 3) := by decide +kernel
theorem dX8_state_5 : decode cX8_state 5 = .ok (.aload_n 0, 1) := by decide +kernel
theorem dX8_state_6 : decode cX8_state 6 = .ok (.getfield 90, 3) := by decide +kernel
theorem dX8_state_9 : decode cX8_state 9 = .ok (.ireturn, 1) := by decide +kernel
theorem dX8_isCell_0 : decode cX8_isCell 0 = .ok (.iload_n 1, 1) := by decide +kernel
theorem dX8_isCell_1 : decode cX8_isCell 1 = .ok (.ifCond .lt 23, 3) := by decide +kernel
theorem dX8_isCell_4 : decode cX8_isCell 4 = .ok (.iload_n 1, 1) := by decide +kernel
theorem dX8_isCell_5 : decode cX8_isCell 5 = .ok (.bipush 8, 2) := by decide +kernel
theorem dX8_isCell_7 : decode cX8_isCell 7 = .ok (.if_icmp .ge 17, 3) := by decide +kernel
theorem dX8_isCell_10 : decode cX8_isCell 10 = .ok (.iload_n 2, 1) := by decide +kernel
theorem dX8_isCell_11 : decode cX8_isCell 11 = .ok (.ifCond .lt 13, 3) := by decide +kernel
theorem dX8_isCell_14 : decode cX8_isCell 14 = .ok (.iload_n 2, 1) := by decide +kernel
theorem dX8_isCell_15 : decode cX8_isCell 15 = .ok (.bipush 12, 2) := by decide +kernel
theorem dX8_isCell_17 : decode cX8_isCell 17 = .ok (.if_icmp .ge 7, 3) := by decide +kernel
theorem dX8_isCell_20 : decode cX8_isCell 20 = .ok (.iconst 1, 1) := by decide +kernel
theorem dX8_isCell_21 : decode cX8_isCell 21 = .ok (.goto 4, 3) := by decide +kernel
theorem dX8_isCell_24 : decode cX8_isCell 24 = .ok (.iconst 0, 1) := by decide +kernel
theorem dX8_isCell_25 : decode cX8_isCell 25 = .ok (.ireturn, 1) := by decide +kernel
theorem dX8_code_0 : decode cX8_code 0 = .ok (.aload_n 0, 1) := by decide +kernel
theorem dX8_code_1 : decode cX8_code 1 = .ok (.aload_n 0, 1) := by decide +kernel
theorem dX8_code_2 : decode cX8_code 2 = .ok (.iload_n 1, 1) := by decide +kernel
theorem dX8_code_3 : decode cX8_code 3 = .ok (.iload_n 2, 1) := by decide +kernel
theorem dX8_code_4 : decode cX8_code 4 = .ok (.invokevirtual 251, 3) := by decide +kernel
theorem dX8_code_7 : decode cX8_code 7 = .ok (.ifCond .eq 7, 3) := by decide +kernel
theorem dX8_code_10 : decode cX8_code 10 = .ok (.iconst 0, 1) := by decide +kernel
theorem dX8_code_11 : decode cX8_code 11 = .ok (.goto 4, 3) := by decide +kernel
theorem dX8_code_14 : decode cX8_code 14 = .ok (.iconst 1, 1) := by decide +kernel
theorem dX8_code_15 : decode cX8_code 15 = .ok (.putfield 41, 3) := by decide +kernel
theorem dX8_code_18 : decode cX8_code 18 = .ok (.aload_n 0, 1) := by decide +kernel
theorem dX8_code_19 : decode cX8_code 19 = .ok (.getfield 41, 3) := by decide +kernel
theorem dX8_code_22 : decode cX8_code 22 = .ok (.ifCond .le 7, 3) := by decide +kernel
theorem dX8_code_25 : decode cX8_code 25 = .ok (.iconst 0, 1) := by decide +kernel
theorem dX8_code_26 : decode cX8_code 26 = .ok (.goto 22, 3) := by decide +kernel
theorem dX8_code_29 : decode cX8_code 29 = .ok (.aload_n 0, 1) := by decide +kernel
theorem dX8_code_30 : decode cX8_code 30 = .ok (.getfield 7, 3) := by decide +kernel
theorem dX8_code_33 : decode cX8_code 33 = .ok (.bipush 96, 2) := by decide +kernel
theorem dX8_code_35 : decode cX8_code 35 = .ok (.aload_n 0, 1) := by decide +kernel
theorem dX8_code_36 : decode cX8_code 36 = .ok (.getfield 49, 3) := by decide +kernel
theorem dX8_code_39 : decode cX8_code 39 = .ok (.imul, 1) := by decide +kernel
theorem dX8_code_40 : decode cX8_code 40 = .ok (.bipush 12, 2) := by decide +kernel
theorem dX8_code_42 : decode cX8_code 42 = .ok (.iload_n 1, 1) := by decide +kernel
theorem dX8_code_43 : decode cX8_code 43 = .ok (.imul, 1) := by decide +kernel
theorem dX8_code_44 : decode cX8_code 44 = .ok (.iadd, 1) := by decide +kernel
theorem dX8_code_45 : decode cX8_code 45 = .ok (.iload_n 2, 1) := by decide +kernel
theorem dX8_code_46 : decode cX8_code 46 = .ok (.iadd, 1) := by decide +kernel
theorem dX8_code_47 : decode cX8_code 47 = .ok (.iaload, 1) := by decide +kernel
theorem dX8_code_48 : decode cX8_code 48 = .ok (.ireturn, 1) := by decide +kernel
theorem dX8_look_0 : decode cX8_look 0 = .ok (.aload_n 0, 1) := by decide +kernel
theorem dX8_look_1 : decode cX8_look 1 = .ok (.aload_n 0, 1) := by decide +kernel
theorem dX8_look_2 : decode cX8_look 2 = .ok (.iload_n 1, 1) := by decide +kernel
theorem dX8_look_3 : decode cX8_look 3 = .ok (.iload_n 2, 1) := by decide +kernel
theorem dX8_look_4 : decode cX8_look 4 = .ok (.invokevirtual 251, 3) := by decide +kernel
theorem dX8_look_7 : decode cX8_look 7 = .ok (.ifCond .eq 7, 3) := by decide +kernel
theorem dX8_look_10 : decode cX8_look 10 = .ok (.iconst 0, 1) := by decide +kernel
theorem dX8_look_11 : decode cX8_look 11 = .ok (.goto 4, 3) := by decide +kernel
theorem dX8_look_14 : decode cX8_look 14 = .ok (.iconst 1, 1) := by decide +kernel
theorem dX8_look_15 : decode cX8_look 15 = .ok (.putfield 41, 3) := by decide +kernel
theorem dX8_look_18 : decode cX8_look 18 = .ok (.aload_n 0, 1) := by decide +kernel
theorem dX8_look_19 : decode cX8_look 19 = .ok (.getfield 41, 3) := by decide +kernel
theorem dX8_look_22 : decode cX8_look 22 = .ok (.ifCond .le 7, 3) := by decide +kernel
theorem dX8_look_25 : decode cX8_look 25 = .ok (.iconst 0, 1) := by decide +kernel
theorem dX8_look_26 : decode cX8_look 26 = .ok (.goto 22, 3) := by decide +kernel
theorem dX8_look_29 : decode cX8_look 29 = .ok (.aload_n 0, 1) := by decide +kernel
theorem dX8_look_30 : decode cX8_look 30 = .ok (.getfield 13, 3) := by decide +kernel
theorem dX8_look_33 : decode cX8_look 33 = .ok (.bipush 96, 2) := by decide +kernel
theorem dX8_look_35 : decode cX8_look 35 = .ok (.aload_n 0, 1) := by decide +kernel
theorem dX8_look_36 : decode cX8_look 36 = .ok (.getfield 49, 3) := by decide +kernel
theorem dX8_look_39 : decode cX8_look 39 = .ok (.imul, 1) := by decide +kernel
theorem dX8_look_40 : decode cX8_look 40 = .ok (.bipush 12, 2) := by decide +kernel
theorem dX8_look_42 : decode cX8_look 42 = .ok (.iload_n 1, 1) := by decide +kernel
theorem dX8_look_43 : decode cX8_look 43 = .ok (.imul, 1) := by decide +kernel
theorem dX8_look_44 : decode cX8_look 44 = .ok (.iadd, 1) := by decide +kernel
theorem dX8_look_45 : decode cX8_look 45 = .ok (.iload_n 2, 1) := by decide +kernel
theorem dX8_look_46 : decode cX8_look 46 = .ok (.iadd, 1) := by decide +kernel
theorem dX8_look_47 : decode cX8_look 47 = .ok (.iaload, 1) := by decide +kernel
theorem dX8_look_48 : decode cX8_look 48 = .ok (.ireturn, 1) := by decide +kernel
theorem dX8_cells_0 : decode cX8_cells 0 = .ok (.aload_n 0, 1) := by decide +kernel
theorem dX8_cells_1 : decode cX8_cells 1 = .ok (.iconst 0, 1) := by decide +kernel
theorem dX8_cells_2 : decode cX8_cells 2 = .ok (.putfield 41, 3) := by decide +kernel
theorem dX8_cells_5 : decode cX8_cells 5 = .ok (.iconst 0, 1) := by decide +kernel
theorem dX8_cells_6 : decode cX8_cells 6 = .ok (.istore_n 3, 1) := by decide +kernel
theorem dX8_cells_7 : decode cX8_cells 7 = .ok (.bipush 96, 2) := by decide +kernel
theorem dX8_cells_9 : decode cX8_cells 9 = .ok (.aload_n 0, 1) := by decide +kernel
theorem dX8_cells_10 : decode cX8_cells 10 = .ok (.getfield 49, 3) := by decide +kernel
theorem dX8_cells_13 : decode cX8_cells 13 = .ok (.imul, 1) := by decide +kernel
theorem dX8_cells_14 : decode cX8_cells 14 = .ok (.istore 4, 2) := by decide +kernel
theorem dX8_cells_16 : decode cX8_cells 16 = .ok (.iload 4, 2) := by decide +kernel
theorem dX8_cells_18 : decode cX8_cells 18 = .ok (.bipush 96, 2) := by decide +kernel
theorem dX8_cells_20 : decode cX8_cells 20 = .ok (.aload_n 0, 1) := by decide +kernel
theorem dX8_cells_21 : decode cX8_cells 21 = .ok (.getfield 49, 3) := by decide +kernel
theorem dX8_cells_24 : decode cX8_cells 24 = .ok (.imul, 1) := by decide +kernel
theorem dX8_cells_25 : decode cX8_cells 25 = .ok (.bipush 96, 2) := by decide +kernel
theorem dX8_cells_27 : decode cX8_cells 27 = .ok (.iadd, 1) := by decide +kernel
theorem dX8_cells_28 : decode cX8_cells 28 = .ok (.if_icmp .ge 39, 3) := by decide +kernel
theorem dX8_cells_31 : decode cX8_cells 31 = .ok (.aload_n 0, 1) := by decide +kernel
theorem dX8_cells_32 : decode cX8_cells 32 = .ok (.getfield 7, 3) := by decide +kernel
theorem dX8_cells_35 : decode cX8_cells 35 = .ok (.iload 4, 2) := by decide +kernel
theorem dX8_cells_37 : decode cX8_cells 37 = .ok (.iaload, 1) := by decide +kernel
theorem dX8_cells_38 : decode cX8_cells 38 = .ok (.iload_n 1, 1) := by decide +kernel
theorem dX8_cells_39 : decode cX8_cells 39 = .ok (.if_icmp .ne 22, 3) := by decide +kernel
theorem dX8_cells_42 : decode cX8_cells 42 = .ok (.iload_n 2, 1) := by decide +kernel
theorem dX8_cells_43 : decode cX8_cells 43 = .ok (.ifCond .lt 14, 3) := by decide +kernel
theorem dX8_cells_46 : decode cX8_cells 46 = .ok (.aload_n 0, 1) := by decide +kernel
theorem dX8_cells_47 : decode cX8_cells 47 = .ok (.getfield 13, 3) := by decide +kernel
theorem dX8_cells_50 : decode cX8_cells 50 = .ok (.iload 4, 2) := by decide +kernel
theorem dX8_cells_52 : decode cX8_cells 52 = .ok (.iaload, 1) := by decide +kernel
theorem dX8_cells_53 : decode cX8_cells 53 = .ok (.iload_n 2, 1) := by decide +kernel
theorem dX8_cells_54 : decode cX8_cells 54 = .ok (.if_icmp .ne 7, 3) := by decide +kernel
theorem dX8_cells_57 : decode cX8_cells 57 = .ok (.iload_n 3, 1) := by decide +kernel
theorem dX8_cells_58 : decode cX8_cells 58 = .ok (.iconst 1, 1) := by decide +kernel
theorem dX8_cells_59 : decode cX8_cells 59 = .ok (.iadd, 1) := by decide +kernel
theorem dX8_cells_60 : decode cX8_cells 60 = .ok (.istore_n 3, 1) := by decide +kernel
theorem dX8_cells_61 : decode cX8_cells 61 = .ok (.iinc 4 1, 3) := by decide +kernel
theorem dX8_cells_64 : decode cX8_cells 64 = .ok (.goto (-48), 3) := by decide +kernel
theorem dX8_cells_67 : decode cX8_cells 67 = .ok (.iload_n 3, 1) := by decide +kernel
theorem dX8_cells_68 : decode cX8_cells 68 = .ok (.ireturn, 1) := by decide +kernel
theorem dX8_waiting_0 : decode cX8_waiting 0 = .ok (.aload_n 0, 1) := by decide +kernel
theorem dX8_waiting_1 : decode cX8_waiting 1 = .ok (.iconst 0, 1) := by decide +kernel
theorem dX8_waiting_2 : decode cX8_waiting 2 = .ok (.putfield 41, 3) := by decide +kernel
theorem dX8_waiting_5 : decode cX8_waiting 5 = .ok (.aload_n 0, 1) := by decide +kernel
theorem dX8_waiting_6 : decode cX8_waiting 6 = .ok (.getfield 84, 3) := by decide +kernel
theorem dX8_waiting_9 : decode cX8_waiting 9 = .ok (.ireturn, 1) := by decide +kernel
theorem dX8_reply_0 : decode cX8_reply 0 = .ok (.aload_n 0, 1) := by decide +kernel
theorem dX8_reply_1 : decode cX8_reply 1 = .ok (.aload_n 0, 1) := by decide +kernel
theorem dX8_reply_2 : decode cX8_reply 2 = .ok (.getfield 84, 3) := by decide +kernel
theorem dX8_reply_5 : decode cX8_reply 5 = .ok (.ifCond .le 7, 3) := by decide +kernel
theorem dX8_reply_8 : decode cX8_reply 8 = .ok (.iconst 0, 1) := by decide +kernel
theorem dX8_reply_9 : decode cX8_reply 9 = .ok (.goto 4, 3) := by decide +kernel
theorem dX8_reply_12 : decode cX8_reply 12 = .ok (.iconst 1, 1) := by decide +kernel
theorem dX8_reply_13 : decode cX8_reply 13 = .ok (.putfield 41, 3) := by decide +kernel
theorem dX8_reply_16 : decode cX8_reply 16 = .ok (.aload_n 0, 1) := by decide +kernel
theorem dX8_reply_17 : decode cX8_reply 17 = .ok (.getfield 41, 3) := by decide +kernel
theorem dX8_reply_20 : decode cX8_reply 20 = .ok (.ifCond .le 5, 3) := by decide +kernel
theorem dX8_reply_23 : decode cX8_reply 23 = .ok (.iconst 0, 1) := by decide +kernel
theorem dX8_reply_24 : decode cX8_reply 24 = .ok (.ireturn, 1) := by decide +kernel
theorem dX8_reply_25 : decode cX8_reply 25 = .ok (.aload_n 0, 1) := by decide +kernel
theorem dX8_reply_26 : decode cX8_reply 26 = .ok (.getfield 26, 3) := by decide +kernel
theorem dX8_reply_29 : decode cX8_reply 29 = .ok (.iconst 0, 1) := by decide +kernel
theorem dX8_reply_30 : decode cX8_reply 30 = .ok (.iaload, 1) := by decide +kernel
theorem dX8_reply_31 : decode cX8_reply 31 = .ok (.istore_n 1, 1) := by decide +kernel
theorem dX8_reply_32 : decode cX8_reply 32 = .ok (.aload_n 0, 1) := by decide +kernel
theorem dX8_reply_33 : decode cX8_reply 33 = .ok (.aload_n 0, 1) := by decide +kernel
theorem dX8_reply_34 : decode cX8_reply 34 = .ok (.getfield 84, 3) := by decide +kernel
theorem dX8_reply_37 : decode cX8_reply 37 = .ok (.iconst 1, 1) := by decide +kernel
theorem dX8_reply_38 : decode cX8_reply 38 = .ok (.isub, 1) := by decide +kernel
theorem dX8_reply_39 : decode cX8_reply 39 = .ok (.putfield 84, 3) := by decide +kernel
theorem dX8_reply_42 : decode cX8_reply 42 = .ok (.iconst 0, 1) := by decide +kernel
theorem dX8_reply_43 : decode cX8_reply 43 = .ok (.istore_n 2, 1) := by decide +kernel
theorem dX8_reply_44 : decode cX8_reply 44 = .ok (.iload_n 2, 1) := by decide +kernel
theorem dX8_reply_45 : decode cX8_reply 45 = .ok (.aload_n 0, 1) := by decide +kernel
theorem dX8_reply_46 : decode cX8_reply 46 = .ok (.getfield 84, 3) := by decide +kernel
theorem dX8_reply_49 : decode cX8_reply 49 = .ok (.if_icmp .ge 23, 3) := by decide +kernel
theorem dX8_reply_52 : decode cX8_reply 52 = .ok (.aload_n 0, 1) := by decide +kernel
theorem dX8_reply_53 : decode cX8_reply 53 = .ok (.getfield 26, 3) := by decide +kernel
theorem dX8_reply_56 : decode cX8_reply 56 = .ok (.iload_n 2, 1) := by decide +kernel
theorem dX8_reply_57 : decode cX8_reply 57 = .ok (.aload_n 0, 1) := by decide +kernel
theorem dX8_reply_58 : decode cX8_reply 58 = .ok (.getfield 26, 3) := by decide +kernel
theorem dX8_reply_61 : decode cX8_reply 61 = .ok (.iload_n 2, 1) := by decide +kernel
theorem dX8_reply_62 : decode cX8_reply 62 = .ok (.iconst 1, 1) := by decide +kernel
theorem dX8_reply_63 : decode cX8_reply 63 = .ok (.iadd, 1) := by decide +kernel
theorem dX8_reply_64 : decode cX8_reply 64 = .ok (.iaload, 1) := by decide +kernel
theorem dX8_reply_65 : decode cX8_reply 65 = .ok (.iastore, 1) := by decide +kernel
theorem dX8_reply_66 : decode cX8_reply 66 = .ok (.iinc 2 1, 3) := by decide +kernel
theorem dX8_reply_69 : decode cX8_reply 69 = .ok (.goto (-25), 3) := by decide +kernel
theorem dX8_reply_72 : decode cX8_reply 72 = .ok (.iload_n 1, 1) := by decide +kernel
theorem dX8_reply_73 : decode cX8_reply 73 = .ok (.ireturn, 1) := by decide +kernel
theorem dX8_title_0 : decode cX8_title 0 = .ok (.aload_n 0, 1) := by decide +kernel
theorem dX8_title_1 : decode cX8_title 1 = .ok (.iconst 0, 1) := by decide +kernel
theorem dX8_title_2 : decode cX8_title 2 = .ok (.putfield 41, 3) := by decide +kernel
theorem dX8_title_5 : decode cX8_title 5 = .ok (.iload_n 1, 1) := by decide +kernel
theorem dX8_title_6 : decode cX8_title 6 = .ok (.ifCond .lt 20, 3) := by decide +kernel
theorem dX8_title_9 : decode cX8_title 9 = .ok (.iload_n 1, 1) := by decide +kernel
theorem dX8_title_10 : decode cX8_title 10 = .ok (.aload_n 0, 1) := by decide +kernel
theorem dX8_title_11 : decode cX8_title 11 = .ok (.getfield 87, 3) := by decide +kernel
theorem dX8_title_14 : decode cX8_title 14 = .ok (.if_icmp .ge 12, 3) := by decide +kernel
theorem dX8_title_17 : decode cX8_title 17 = .ok (.aload_n 0, 1) := by decide +kernel
theorem dX8_title_18 : decode cX8_title 18 = .ok (.getfield 29, 3) := by decide +kernel
theorem dX8_title_21 : decode cX8_title 21 = .ok (.iload_n 1, 1) := by decide +kernel
theorem dX8_title_22 : decode cX8_title 22 = .ok (.iaload, 1) := by decide +kernel
theorem dX8_title_23 : decode cX8_title 23 = .ok (.goto 4, 3) := by decide +kernel
theorem dX8_title_26 : decode cX8_title 26 = .ok (.iconst (-1), 1) := by decide +kernel
theorem dX8_title_27 : decode cX8_title 27 = .ok (.ireturn, 1) := by decide +kernel
end
section
theorem dL_code_0 : decode cL_code 0 = .ok (.aload_n 3, 1) := by decide +kernel
theorem dL_code_1 : decode cL_code 1 = .ok (.iconst 0, 1) := by decide +kernel
theorem dL_code_2 : decode cL_code 2 = .ok (.aload_n 0, 1) := by decide +kernel
theorem dL_code_3 : decode cL_code 3 = .ok (.iload_n 1, 1) := by decide +kernel
theorem dL_code_4 : decode cL_code 4 = .ok (.iload_n 2, 1) := by decide +kernel
theorem dL_code_5 : decode cL_code 5 = .ok (.invokevirtual 7, 3) := by decide +kernel
theorem dL_code_8 : decode cL_code 8 = .ok (.i2l, 1) := by decide +kernel
theorem dL_code_9 : decode cL_code 9 = .ok (.lastore, 1) := by decide +kernel
theorem dL_code_10 : decode cL_code 10 = .ok (.goto 7, 3) := by decide +kernel
theorem dL_code_13 : decode cL_code 13 = .ok (.astore 4, 2) := by decide +kernel
theorem dL_code_15 : decode cL_code 15 = .ok (.iconst 1, 1) := by decide +kernel
theorem dL_code_16 : decode cL_code 16 = .ok (.ireturn, 1) := by decide +kernel
theorem dL_code_17 : decode cL_code 17 = .ok (.iconst 0, 1) := by decide +kernel
theorem dL_code_18 : decode cL_code 18 = .ok (.ireturn, 1) := by decide +kernel
theorem dL_look_0 : decode cL_look 0 = .ok (.aload_n 3, 1) := by decide +kernel
theorem dL_look_1 : decode cL_look 1 = .ok (.iconst 0, 1) := by decide +kernel
theorem dL_look_2 : decode cL_look 2 = .ok (.aload_n 0, 1) := by decide +kernel
theorem dL_look_3 : decode cL_look 3 = .ok (.iload_n 1, 1) := by decide +kernel
theorem dL_look_4 : decode cL_look 4 = .ok (.iload_n 2, 1) := by decide +kernel
theorem dL_look_5 : decode cL_look 5 = .ok (.invokevirtual 15, 3) := by decide +kernel
theorem dL_look_8 : decode cL_look 8 = .ok (.i2l, 1) := by decide +kernel
theorem dL_look_9 : decode cL_look 9 = .ok (.lastore, 1) := by decide +kernel
theorem dL_look_10 : decode cL_look 10 = .ok (.goto 7, 3) := by decide +kernel
theorem dL_look_13 : decode cL_look 13 = .ok (.astore 4, 2) := by decide +kernel
theorem dL_look_15 : decode cL_look 15 = .ok (.iconst 1, 1) := by decide +kernel
theorem dL_look_16 : decode cL_look 16 = .ok (.ireturn, 1) := by decide +kernel
theorem dL_look_17 : decode cL_look 17 = .ok (.iconst 0, 1) := by decide +kernel
theorem dL_look_18 : decode cL_look 18 = .ok (.ireturn, 1) := by decide +kernel
theorem dL_reply_0 : decode cL_reply 0 = .ok (.aload_n 1, 1) := by decide +kernel
theorem dL_reply_1 : decode cL_reply 1 = .ok (.iconst 0, 1) := by decide +kernel
theorem dL_reply_2 : decode cL_reply 2 = .ok (.aload_n 0, 1) := by decide +kernel
theorem dL_reply_3 : decode cL_reply 3 = .ok (.invokevirtual 18, 3) := by decide +kernel
theorem dL_reply_6 : decode cL_reply 6 = .ok (.i2l, 1) := by decide +kernel
theorem dL_reply_7 : decode cL_reply 7 = .ok (.lastore, 1) := by decide +kernel
theorem dL_reply_8 : decode cL_reply 8 = .ok (.goto 6, 3) := by decide +kernel
theorem dL_reply_11 : decode cL_reply 11 = .ok (.astore_n 2, 1) := by decide +kernel
theorem dL_reply_12 : decode cL_reply 12 = .ok (.iconst 1, 1) := by decide +kernel
theorem dL_reply_13 : decode cL_reply 13 = .ok (.ireturn, 1) := by decide +kernel
theorem dL_reply_14 : decode cL_reply 14 = .ok (.iconst 0, 1) := by decide +kernel
theorem dL_reply_15 : decode cL_reply 15 = .ok (.ireturn, 1) := by decide +kernel
theorem dL_law_0 : decode cL_law 0 = .ok (.new 8, 3) := by decide +kernel
theorem dL_law_3 : decode cL_law 3 = .ok (.dup, 1) := by decide +kernel
theorem dL_law_4 : decode cL_law 4 = .ok (.invokespecial 24, 3) := by decide +kernel
theorem dL_law_7 : decode cL_law 7 = .ok (.astore_n 1, 1) := by decide +kernel
theorem dL_law_8 : decode cL_law 8 = .ok (.new 25, 3) := by decide +kernel
theorem dL_law_11 : decode cL_law 11 = .ok (.dup, 1) := by decide +kernel
theorem dL_law_12 : decode cL_law 12 = .ok (.invokespecial 27, 3) := by decide +kernel
theorem dL_law_15 : decode cL_law 15 = .ok (.astore_n 2, 1) := by decide +kernel
theorem dL_law_16 : decode cL_law 16 = .ok (.iconst 1, 1) := by decide +kernel
theorem dL_law_17 : decode cL_law 17 = .ok (.newarray .long, 2) := by decide +kernel
theorem dL_law_19 : decode cL_law 19 = .ok (.astore_n 3, 1) := by decide +kernel
theorem dL_law_20 : decode cL_law 20 = .ok (.iconst 0, 1) := by decide +kernel
theorem dL_law_21 : decode cL_law 21 = .ok (.istore 4, 2) := by decide +kernel
theorem dL_law_23 : decode cL_law 23 = .ok (.iload 4, 2) := by decide +kernel
theorem dL_law_25 : decode cL_law 25 = .ok (.aload_n 0, 1) := by decide +kernel
theorem dL_law_26 : decode cL_law 26 = .ok (.arraylength, 1) := by decide +kernel
theorem dL_law_27 : decode cL_law 27 = .ok (.iconst 3, 1) := by decide +kernel
theorem dL_law_28 : decode cL_law 28 = .ok (.isub, 1) := by decide +kernel
theorem dL_law_29 : decode cL_law 29 = .ok (.if_icmp .gt 575, 3) := by decide +kernel
theorem dL_law_32 : decode cL_law 32 = .ok (.aload_n 0, 1) := by decide +kernel
theorem dL_law_33 : decode cL_law 33 = .ok (.iload 4, 2) := by decide +kernel
theorem dL_law_35 : decode cL_law 35 = .ok (.iaload, 1) := by decide +kernel
theorem dL_law_36 : decode cL_law 36 = .ok (.bipush 31, 2) := by decide +kernel
theorem dL_law_38 : decode cL_law 38 = .ok (.iand, 1) := by decide +kernel
theorem dL_law_39 : decode cL_law 39 = .ok (.tableswitch 559 0 16 #[81, 106, 163, 176, 189, 202, 215, 240, 253, 278, 291, 304, 372, 440, 477, 490, 534], 81) := by decide +kernel
theorem dL_law_120 : decode cL_law 120 = .ok (.aload_n 1, 1) := by decide +kernel
theorem dL_law_121 : decode cL_law 121 = .ok (.aload_n 0, 1) := by decide +kernel
theorem dL_law_122 : decode cL_law 122 = .ok (.iload 4, 2) := by decide +kernel
theorem dL_law_124 : decode cL_law 124 = .ok (.iconst 1, 1) := by decide +kernel
theorem dL_law_125 : decode cL_law 125 = .ok (.iadd, 1) := by decide +kernel
theorem dL_law_126 : decode cL_law 126 = .ok (.iaload, 1) := by decide +kernel
theorem dL_law_127 : decode cL_law 127 = .ok (.invokevirtual 28, 3) := by decide +kernel
theorem dL_law_130 : decode cL_law 130 = .ok (.aload_n 2, 1) := by decide +kernel
theorem dL_law_131 : decode cL_law 131 = .ok (.aload_n 0, 1) := by decide +kernel
theorem dL_law_132 : decode cL_law 132 = .ok (.iload 4, 2) := by decide +kernel
theorem dL_law_134 : decode cL_law 134 = .ok (.iconst 1, 1) := by decide +kernel
theorem dL_law_135 : decode cL_law 135 = .ok (.iadd, 1) := by decide +kernel
theorem dL_law_136 : decode cL_law 136 = .ok (.iaload, 1) := by decide +kernel
theorem dL_law_137 : decode cL_law 137 = .ok (.invokevirtual 32, 3) := by decide +kernel
theorem dL_law_140 : decode cL_law 140 = .ok (.if_icmp .eq 458, 3) := by decide +kernel
theorem dL_law_143 : decode cL_law 143 = .ok (.iconst 0, 1) := by decide +kernel
theorem dL_law_144 : decode cL_law 144 = .ok (.ireturn, 1) := by decide +kernel
theorem dL_law_145 : decode cL_law 145 = .ok (.aload_n 1, 1) := by decide +kernel
theorem dL_law_146 : decode cL_law 146 = .ok (.aload_n 0, 1) := by decide +kernel
theorem dL_law_147 : decode cL_law 147 = .ok (.iload 4, 2) := by decide +kernel
theorem dL_law_149 : decode cL_law 149 = .ok (.iconst 1, 1) := by decide +kernel
theorem dL_law_150 : decode cL_law 150 = .ok (.iadd, 1) := by decide +kernel
theorem dL_law_151 : decode cL_law 151 = .ok (.iaload, 1) := by decide +kernel
theorem dL_law_152 : decode cL_law 152 = .ok (.i2l, 1) := by decide +kernel
theorem dL_law_153 : decode cL_law 153 = .ok (.bipush 32, 2) := by decide +kernel
theorem dL_law_155 : decode cL_law 155 = .ok (.lshl, 1) := by decide +kernel
theorem dL_law_156 : decode cL_law 156 = .ok (.aload_n 0, 1) := by decide +kernel
theorem dL_law_157 : decode cL_law 157 = .ok (.iload 4, 2) := by decide +kernel
theorem dL_law_159 : decode cL_law 159 = .ok (.iconst 2, 1) := by decide +kernel
theorem dL_law_160 : decode cL_law 160 = .ok (.iadd, 1) := by decide +kernel
theorem dL_law_161 : decode cL_law 161 = .ok (.iaload, 1) := by decide +kernel
theorem dL_law_162 : decode cL_law 162 = .ok (.i2l, 1) := by decide +kernel
theorem dL_law_163 : decode cL_law 163 = .ok (.ldc2_w 33, 3) := by decide +kernel
theorem dL_law_166 : decode cL_law 166 = .ok (.land, 1) := by decide +kernel
theorem dL_law_167 : decode cL_law 167 = .ok (.lor, 1) := by decide +kernel
theorem dL_law_168 : decode cL_law 168 = .ok (.invokevirtual 35, 3) := by decide +kernel
theorem dL_law_171 : decode cL_law 171 = .ok (.aload_n 2, 1) := by decide +kernel
theorem dL_law_172 : decode cL_law 172 = .ok (.aload_n 0, 1) := by decide +kernel
theorem dL_law_173 : decode cL_law 173 = .ok (.iload 4, 2) := by decide +kernel
theorem dL_law_175 : decode cL_law 175 = .ok (.iconst 1, 1) := by decide +kernel
theorem dL_law_176 : decode cL_law 176 = .ok (.iadd, 1) := by decide +kernel
theorem dL_law_177 : decode cL_law 177 = .ok (.iaload, 1) := by decide +kernel
theorem dL_law_178 : decode cL_law 178 = .ok (.i2l, 1) := by decide +kernel
theorem dL_law_179 : decode cL_law 179 = .ok (.bipush 32, 2) := by decide +kernel
theorem dL_law_181 : decode cL_law 181 = .ok (.lshl, 1) := by decide +kernel
theorem dL_law_182 : decode cL_law 182 = .ok (.aload_n 0, 1) := by decide +kernel
theorem dL_law_183 : decode cL_law 183 = .ok (.iload 4, 2) := by decide +kernel
theorem dL_law_185 : decode cL_law 185 = .ok (.iconst 2, 1) := by decide +kernel
theorem dL_law_186 : decode cL_law 186 = .ok (.iadd, 1) := by decide +kernel
theorem dL_law_187 : decode cL_law 187 = .ok (.iaload, 1) := by decide +kernel
theorem dL_law_188 : decode cL_law 188 = .ok (.i2l, 1) := by decide +kernel
theorem dL_law_189 : decode cL_law 189 = .ok (.ldc2_w 33, 3) := by decide +kernel
theorem dL_law_192 : decode cL_law 192 = .ok (.land, 1) := by decide +kernel
theorem dL_law_193 : decode cL_law 193 = .ok (.lor, 1) := by decide +kernel
theorem dL_law_194 : decode cL_law 194 = .ok (.invokevirtual 39, 3) := by decide +kernel
theorem dL_law_197 : decode cL_law 197 = .ok (.if_icmp .eq 401, 3) := by decide +kernel
theorem dL_law_200 : decode cL_law 200 = .ok (.iconst 0, 1) := by decide +kernel
theorem dL_law_201 : decode cL_law 201 = .ok (.ireturn, 1) := by decide +kernel
theorem dL_law_202 : decode cL_law 202 = .ok (.aload_n 1, 1) := by decide +kernel
theorem dL_law_203 : decode cL_law 203 = .ok (.invokevirtual 40, 3) := by decide +kernel
theorem dL_law_206 : decode cL_law 206 = .ok (.aload_n 2, 1) := by decide +kernel
theorem dL_law_207 : decode cL_law 207 = .ok (.invokevirtual 43, 3) := by decide +kernel
theorem dL_law_210 : decode cL_law 210 = .ok (.if_icmp .eq 388, 3) := by decide +kernel
theorem dL_law_213 : decode cL_law 213 = .ok (.iconst 0, 1) := by decide +kernel
theorem dL_law_214 : decode cL_law 214 = .ok (.ireturn, 1) := by decide +kernel
theorem dL_law_215 : decode cL_law 215 = .ok (.aload_n 1, 1) := by decide +kernel
theorem dL_law_216 : decode cL_law 216 = .ok (.invokevirtual 44, 3) := by decide +kernel
theorem dL_law_219 : decode cL_law 219 = .ok (.aload_n 2, 1) := by decide +kernel
theorem dL_law_220 : decode cL_law 220 = .ok (.invokevirtual 47, 3) := by decide +kernel
theorem dL_law_223 : decode cL_law 223 = .ok (.if_icmp .eq 375, 3) := by decide +kernel
theorem dL_law_226 : decode cL_law 226 = .ok (.iconst 0, 1) := by decide +kernel
theorem dL_law_227 : decode cL_law 227 = .ok (.ireturn, 1) := by decide +kernel
theorem dL_law_228 : decode cL_law 228 = .ok (.aload_n 1, 1) := by decide +kernel
theorem dL_law_229 : decode cL_law 229 = .ok (.invokevirtual 48, 3) := by decide +kernel
theorem dL_law_232 : decode cL_law 232 = .ok (.aload_n 2, 1) := by decide +kernel
theorem dL_law_233 : decode cL_law 233 = .ok (.invokevirtual 52, 3) := by decide +kernel
theorem dL_law_236 : decode cL_law 236 = .ok (.if_icmp .eq 362, 3) := by decide +kernel
theorem dL_law_239 : decode cL_law 239 = .ok (.iconst 0, 1) := by decide +kernel
theorem dL_law_240 : decode cL_law 240 = .ok (.ireturn, 1) := by decide +kernel
theorem dL_law_241 : decode cL_law 241 = .ok (.aload_n 1, 1) := by decide +kernel
theorem dL_law_242 : decode cL_law 242 = .ok (.invokevirtual 53, 3) := by decide +kernel
theorem dL_law_245 : decode cL_law 245 = .ok (.aload_n 2, 1) := by decide +kernel
theorem dL_law_246 : decode cL_law 246 = .ok (.invokevirtual 56, 3) := by decide +kernel
theorem dL_law_249 : decode cL_law 249 = .ok (.if_icmp .eq 349, 3) := by decide +kernel
theorem dL_law_252 : decode cL_law 252 = .ok (.iconst 0, 1) := by decide +kernel
theorem dL_law_253 : decode cL_law 253 = .ok (.ireturn, 1) := by decide +kernel
theorem dL_law_254 : decode cL_law 254 = .ok (.aload_n 1, 1) := by decide +kernel
theorem dL_law_255 : decode cL_law 255 = .ok (.aload_n 0, 1) := by decide +kernel
theorem dL_law_256 : decode cL_law 256 = .ok (.iload 4, 2) := by decide +kernel
theorem dL_law_258 : decode cL_law 258 = .ok (.iconst 1, 1) := by decide +kernel
theorem dL_law_259 : decode cL_law 259 = .ok (.iadd, 1) := by decide +kernel
theorem dL_law_260 : decode cL_law 260 = .ok (.iaload, 1) := by decide +kernel
theorem dL_law_261 : decode cL_law 261 = .ok (.invokevirtual 57, 3) := by decide +kernel
theorem dL_law_264 : decode cL_law 264 = .ok (.aload_n 2, 1) := by decide +kernel
theorem dL_law_265 : decode cL_law 265 = .ok (.aload_n 0, 1) := by decide +kernel
theorem dL_law_266 : decode cL_law 266 = .ok (.iload 4, 2) := by decide +kernel
theorem dL_law_268 : decode cL_law 268 = .ok (.iconst 1, 1) := by decide +kernel
theorem dL_law_269 : decode cL_law 269 = .ok (.iadd, 1) := by decide +kernel
theorem dL_law_270 : decode cL_law 270 = .ok (.iaload, 1) := by decide +kernel
theorem dL_law_271 : decode cL_law 271 = .ok (.invokevirtual 61, 3) := by decide +kernel
theorem dL_law_274 : decode cL_law 274 = .ok (.if_icmp .eq 324, 3) := by decide +kernel
theorem dL_law_277 : decode cL_law 277 = .ok (.iconst 0, 1) := by decide +kernel
theorem dL_law_278 : decode cL_law 278 = .ok (.ireturn, 1) := by decide +kernel
theorem dL_law_279 : decode cL_law 279 = .ok (.aload_n 1, 1) := by decide +kernel
theorem dL_law_280 : decode cL_law 280 = .ok (.invokevirtual 62, 3) := by decide +kernel
theorem dL_law_283 : decode cL_law 283 = .ok (.aload_n 2, 1) := by decide +kernel
theorem dL_law_284 : decode cL_law 284 = .ok (.invokevirtual 65, 3) := by decide +kernel
theorem dL_law_287 : decode cL_law 287 = .ok (.if_icmp .eq 311, 3) := by decide +kernel
theorem dL_law_290 : decode cL_law 290 = .ok (.iconst 0, 1) := by decide +kernel
theorem dL_law_291 : decode cL_law 291 = .ok (.ireturn, 1) := by decide +kernel
theorem dL_law_292 : decode cL_law 292 = .ok (.aload_n 1, 1) := by decide +kernel
theorem dL_law_293 : decode cL_law 293 = .ok (.aload_n 0, 1) := by decide +kernel
theorem dL_law_294 : decode cL_law 294 = .ok (.iload 4, 2) := by decide +kernel
theorem dL_law_296 : decode cL_law 296 = .ok (.iconst 1, 1) := by decide +kernel
theorem dL_law_297 : decode cL_law 297 = .ok (.iadd, 1) := by decide +kernel
theorem dL_law_298 : decode cL_law 298 = .ok (.iaload, 1) := by decide +kernel
theorem dL_law_299 : decode cL_law 299 = .ok (.invokevirtual 66, 3) := by decide +kernel
theorem dL_law_302 : decode cL_law 302 = .ok (.aload_n 2, 1) := by decide +kernel
theorem dL_law_303 : decode cL_law 303 = .ok (.aload_n 0, 1) := by decide +kernel
theorem dL_law_304 : decode cL_law 304 = .ok (.iload 4, 2) := by decide +kernel
theorem dL_law_306 : decode cL_law 306 = .ok (.iconst 1, 1) := by decide +kernel
theorem dL_law_307 : decode cL_law 307 = .ok (.iadd, 1) := by decide +kernel
theorem dL_law_308 : decode cL_law 308 = .ok (.iaload, 1) := by decide +kernel
theorem dL_law_309 : decode cL_law 309 = .ok (.invokevirtual 69, 3) := by decide +kernel
theorem dL_law_312 : decode cL_law 312 = .ok (.if_icmp .eq 286, 3) := by decide +kernel
theorem dL_law_315 : decode cL_law 315 = .ok (.iconst 0, 1) := by decide +kernel
theorem dL_law_316 : decode cL_law 316 = .ok (.ireturn, 1) := by decide +kernel
theorem dL_law_317 : decode cL_law 317 = .ok (.aload_n 1, 1) := by decide +kernel
theorem dL_law_318 : decode cL_law 318 = .ok (.invokevirtual 70, 3) := by decide +kernel
theorem dL_law_321 : decode cL_law 321 = .ok (.aload_n 2, 1) := by decide +kernel
theorem dL_law_322 : decode cL_law 322 = .ok (.invokevirtual 73, 3) := by decide +kernel
theorem dL_law_325 : decode cL_law 325 = .ok (.if_icmp .eq 273, 3) := by decide +kernel
theorem dL_law_328 : decode cL_law 328 = .ok (.iconst 0, 1) := by decide +kernel
theorem dL_law_329 : decode cL_law 329 = .ok (.ireturn, 1) := by decide +kernel
theorem dL_law_330 : decode cL_law 330 = .ok (.aload_n 1, 1) := by decide +kernel
theorem dL_law_331 : decode cL_law 331 = .ok (.invokevirtual 74, 3) := by decide +kernel
theorem dL_law_334 : decode cL_law 334 = .ok (.aload_n 2, 1) := by decide +kernel
theorem dL_law_335 : decode cL_law 335 = .ok (.invokevirtual 77, 3) := by decide +kernel
theorem dL_law_338 : decode cL_law 338 = .ok (.if_icmp .eq 260, 3) := by decide +kernel
theorem dL_law_341 : decode cL_law 341 = .ok (.iconst 0, 1) := by decide +kernel
theorem dL_law_342 : decode cL_law 342 = .ok (.ireturn, 1) := by decide +kernel
theorem dL_law_343 : decode cL_law 343 = .ok (.aload_n 1, 1) := by decide +kernel
theorem dL_law_344 : decode cL_law 344 = .ok (.aload_n 0, 1) := by decide +kernel
theorem dL_law_345 : decode cL_law 345 = .ok (.iload 4, 2) := by decide +kernel
theorem dL_law_347 : decode cL_law 347 = .ok (.iconst 1, 1) := by decide +kernel
theorem dL_law_348 : decode cL_law 348 = .ok (.iadd, 1) := by decide +kernel
theorem dL_law_349 : decode cL_law 349 = .ok (.iaload, 1) := by decide +kernel
theorem dL_law_350 : decode cL_law 350 = .ok (.aload_n 0, 1) := by decide +kernel
theorem dL_law_351 : decode cL_law 351 = .ok (.iload 4, 2) := by decide +kernel
theorem dL_law_353 : decode cL_law 353 = .ok (.iconst 2, 1) := by decide +kernel
theorem dL_law_354 : decode cL_law 354 = .ok (.iadd, 1) := by decide +kernel
theorem dL_law_355 : decode cL_law 355 = .ok (.iaload, 1) := by decide +kernel
theorem dL_law_356 : decode cL_law 356 = .ok (.aload_n 3, 1) := by decide +kernel
theorem dL_law_357 : decode cL_law 357 = .ok (.invokestatic 78, 3) := by decide +kernel
theorem dL_law_360 : decode cL_law 360 = .ok (.istore 5, 2) := by decide +kernel
theorem dL_law_362 : decode cL_law 362 = .ok (.aload_n 2, 1) := by decide +kernel
theorem dL_law_363 : decode cL_law 363 = .ok (.aload_n 0, 1) := by decide +kernel
theorem dL_law_364 : decode cL_law 364 = .ok (.iload 4, 2) := by decide +kernel
theorem dL_law_366 : decode cL_law 366 = .ok (.iconst 1, 1) := by decide +kernel
theorem dL_law_367 : decode cL_law 367 = .ok (.iadd, 1) := by decide +kernel
theorem dL_law_368 : decode cL_law 368 = .ok (.iaload, 1) := by decide +kernel
theorem dL_law_369 : decode cL_law 369 = .ok (.aload_n 0, 1) := by decide +kernel
theorem dL_law_370 : decode cL_law 370 = .ok (.iload 4, 2) := by decide +kernel
theorem dL_law_372 : decode cL_law 372 = .ok (.iconst 2, 1) := by decide +kernel
theorem dL_law_373 : decode cL_law 373 = .ok (.iadd, 1) := by decide +kernel
theorem dL_law_374 : decode cL_law 374 = .ok (.iaload, 1) := by decide +kernel
theorem dL_law_375 : decode cL_law 375 = .ok (.invokevirtual 83, 3) := by decide +kernel
theorem dL_law_378 : decode cL_law 378 = .ok (.istore 6, 2) := by decide +kernel
theorem dL_law_380 : decode cL_law 380 = .ok (.aload_n 2, 1) := by decide +kernel
theorem dL_law_381 : decode cL_law 381 = .ok (.invokevirtual 84, 3) := by decide +kernel
theorem dL_law_384 : decode cL_law 384 = .ok (.iload 5, 2) := by decide +kernel
theorem dL_law_386 : decode cL_law 386 = .ok (.if_icmp .eq 5, 3) := by decide +kernel
theorem dL_law_389 : decode cL_law 389 = .ok (.iconst 0, 1) := by decide +kernel
theorem dL_law_390 : decode cL_law 390 = .ok (.ireturn, 1) := by decide +kernel
theorem dL_law_391 : decode cL_law 391 = .ok (.iload 5, 2) := by decide +kernel
theorem dL_law_393 : decode cL_law 393 = .ok (.ifCond .ne 15, 3) := by decide +kernel
theorem dL_law_396 : decode cL_law 396 = .ok (.aload_n 3, 1) := by decide +kernel
theorem dL_law_397 : decode cL_law 397 = .ok (.iconst 0, 1) := by decide +kernel
theorem dL_law_398 : decode cL_law 398 = .ok (.laload, 1) := by decide +kernel
theorem dL_law_399 : decode cL_law 399 = .ok (.iload 6, 2) := by decide +kernel
theorem dL_law_401 : decode cL_law 401 = .ok (.i2l, 1) := by decide +kernel
theorem dL_law_402 : decode cL_law 402 = .ok (.lcmp, 1) := by decide +kernel
theorem dL_law_403 : decode cL_law 403 = .ok (.ifCond .eq 5, 3) := by decide +kernel
theorem dL_law_406 : decode cL_law 406 = .ok (.iconst 0, 1) := by decide +kernel
theorem dL_law_407 : decode cL_law 407 = .ok (.ireturn, 1) := by decide +kernel
theorem dL_law_408 : decode cL_law 408 = .ok (.goto 190, 3) := by decide +kernel
theorem dL_law_411 : decode cL_law 411 = .ok (.aload_n 1, 1) := by decide +kernel
theorem dL_law_412 : decode cL_law 412 = .ok (.aload_n 0, 1) := by decide +kernel
theorem dL_law_413 : decode cL_law 413 = .ok (.iload 4, 2) := by decide +kernel
theorem dL_law_415 : decode cL_law 415 = .ok (.iconst 1, 1) := by decide +kernel
theorem dL_law_416 : decode cL_law 416 = .ok (.iadd, 1) := by decide +kernel
theorem dL_law_417 : decode cL_law 417 = .ok (.iaload, 1) := by decide +kernel
theorem dL_law_418 : decode cL_law 418 = .ok (.aload_n 0, 1) := by decide +kernel
theorem dL_law_419 : decode cL_law 419 = .ok (.iload 4, 2) := by decide +kernel
theorem dL_law_421 : decode cL_law 421 = .ok (.iconst 2, 1) := by decide +kernel
theorem dL_law_422 : decode cL_law 422 = .ok (.iadd, 1) := by decide +kernel
theorem dL_law_423 : decode cL_law 423 = .ok (.iaload, 1) := by decide +kernel
theorem dL_law_424 : decode cL_law 424 = .ok (.aload_n 3, 1) := by decide +kernel
theorem dL_law_425 : decode cL_law 425 = .ok (.invokestatic 87, 3) := by decide +kernel
theorem dL_law_428 : decode cL_law 428 = .ok (.istore 5, 2) := by decide +kernel
theorem dL_law_430 : decode cL_law 430 = .ok (.aload_n 2, 1) := by decide +kernel
theorem dL_law_431 : decode cL_law 431 = .ok (.aload_n 0, 1) := by decide +kernel
theorem dL_law_432 : decode cL_law 432 = .ok (.iload 4, 2) := by decide +kernel
theorem dL_law_434 : decode cL_law 434 = .ok (.iconst 1, 1) := by decide +kernel
theorem dL_law_435 : decode cL_law 435 = .ok (.iadd, 1) := by decide +kernel
theorem dL_law_436 : decode cL_law 436 = .ok (.iaload, 1) := by decide +kernel
theorem dL_law_437 : decode cL_law 437 = .ok (.aload_n 0, 1) := by decide +kernel
theorem dL_law_438 : decode cL_law 438 = .ok (.iload 4, 2) := by decide +kernel
theorem dL_law_440 : decode cL_law 440 = .ok (.iconst 2, 1) := by decide +kernel
theorem dL_law_441 : decode cL_law 441 = .ok (.iadd, 1) := by decide +kernel
theorem dL_law_442 : decode cL_law 442 = .ok (.iaload, 1) := by decide +kernel
theorem dL_law_443 : decode cL_law 443 = .ok (.invokevirtual 89, 3) := by decide +kernel
theorem dL_law_446 : decode cL_law 446 = .ok (.istore 6, 2) := by decide +kernel
theorem dL_law_448 : decode cL_law 448 = .ok (.aload_n 2, 1) := by decide +kernel
theorem dL_law_449 : decode cL_law 449 = .ok (.invokevirtual 84, 3) := by decide +kernel
theorem dL_law_452 : decode cL_law 452 = .ok (.iload 5, 2) := by decide +kernel
theorem dL_law_454 : decode cL_law 454 = .ok (.if_icmp .eq 5, 3) := by decide +kernel
theorem dL_law_457 : decode cL_law 457 = .ok (.iconst 0, 1) := by decide +kernel
theorem dL_law_458 : decode cL_law 458 = .ok (.ireturn, 1) := by decide +kernel
theorem dL_law_459 : decode cL_law 459 = .ok (.iload 5, 2) := by decide +kernel
theorem dL_law_461 : decode cL_law 461 = .ok (.ifCond .ne 15, 3) := by decide +kernel
theorem dL_law_464 : decode cL_law 464 = .ok (.aload_n 3, 1) := by decide +kernel
theorem dL_law_465 : decode cL_law 465 = .ok (.iconst 0, 1) := by decide +kernel
theorem dL_law_466 : decode cL_law 466 = .ok (.laload, 1) := by decide +kernel
theorem dL_law_467 : decode cL_law 467 = .ok (.iload 6, 2) := by decide +kernel
theorem dL_law_469 : decode cL_law 469 = .ok (.i2l, 1) := by decide +kernel
theorem dL_law_470 : decode cL_law 470 = .ok (.lcmp, 1) := by decide +kernel
theorem dL_law_471 : decode cL_law 471 = .ok (.ifCond .eq 5, 3) := by decide +kernel
theorem dL_law_474 : decode cL_law 474 = .ok (.iconst 0, 1) := by decide +kernel
theorem dL_law_475 : decode cL_law 475 = .ok (.ireturn, 1) := by decide +kernel
theorem dL_law_476 : decode cL_law 476 = .ok (.goto 122, 3) := by decide +kernel
theorem dL_law_479 : decode cL_law 479 = .ok (.aload_n 1, 1) := by decide +kernel
theorem dL_law_480 : decode cL_law 480 = .ok (.aload_n 0, 1) := by decide +kernel
theorem dL_law_481 : decode cL_law 481 = .ok (.iload 4, 2) := by decide +kernel
theorem dL_law_483 : decode cL_law 483 = .ok (.iconst 1, 1) := by decide +kernel
theorem dL_law_484 : decode cL_law 484 = .ok (.iadd, 1) := by decide +kernel
theorem dL_law_485 : decode cL_law 485 = .ok (.iaload, 1) := by decide +kernel
theorem dL_law_486 : decode cL_law 486 = .ok (.aload_n 0, 1) := by decide +kernel
theorem dL_law_487 : decode cL_law 487 = .ok (.iload 4, 2) := by decide +kernel
theorem dL_law_489 : decode cL_law 489 = .ok (.iconst 2, 1) := by decide +kernel
theorem dL_law_490 : decode cL_law 490 = .ok (.iadd, 1) := by decide +kernel
theorem dL_law_491 : decode cL_law 491 = .ok (.iaload, 1) := by decide +kernel
theorem dL_law_492 : decode cL_law 492 = .ok (.invokevirtual 90, 3) := by decide +kernel
theorem dL_law_495 : decode cL_law 495 = .ok (.aload_n 2, 1) := by decide +kernel
theorem dL_law_496 : decode cL_law 496 = .ok (.aload_n 0, 1) := by decide +kernel
theorem dL_law_497 : decode cL_law 497 = .ok (.iload 4, 2) := by decide +kernel
theorem dL_law_499 : decode cL_law 499 = .ok (.iconst 1, 1) := by decide +kernel
theorem dL_law_500 : decode cL_law 500 = .ok (.iadd, 1) := by decide +kernel
theorem dL_law_501 : decode cL_law 501 = .ok (.iaload, 1) := by decide +kernel
theorem dL_law_502 : decode cL_law 502 = .ok (.aload_n 0, 1) := by decide +kernel
theorem dL_law_503 : decode cL_law 503 = .ok (.iload 4, 2) := by decide +kernel
theorem dL_law_505 : decode cL_law 505 = .ok (.iconst 2, 1) := by decide +kernel
theorem dL_law_506 : decode cL_law 506 = .ok (.iadd, 1) := by decide +kernel
theorem dL_law_507 : decode cL_law 507 = .ok (.iaload, 1) := by decide +kernel
theorem dL_law_508 : decode cL_law 508 = .ok (.invokevirtual 93, 3) := by decide +kernel
theorem dL_law_511 : decode cL_law 511 = .ok (.if_icmp .eq 87, 3) := by decide +kernel
theorem dL_law_514 : decode cL_law 514 = .ok (.iconst 0, 1) := by decide +kernel
theorem dL_law_515 : decode cL_law 515 = .ok (.ireturn, 1) := by decide +kernel
theorem dL_law_516 : decode cL_law 516 = .ok (.aload_n 1, 1) := by decide +kernel
theorem dL_law_517 : decode cL_law 517 = .ok (.invokevirtual 94, 3) := by decide +kernel
theorem dL_law_520 : decode cL_law 520 = .ok (.aload_n 2, 1) := by decide +kernel
theorem dL_law_521 : decode cL_law 521 = .ok (.invokevirtual 97, 3) := by decide +kernel
theorem dL_law_524 : decode cL_law 524 = .ok (.if_icmp .eq 74, 3) := by decide +kernel
theorem dL_law_527 : decode cL_law 527 = .ok (.iconst 0, 1) := by decide +kernel
theorem dL_law_528 : decode cL_law 528 = .ok (.ireturn, 1) := by decide +kernel
theorem dL_law_529 : decode cL_law 529 = .ok (.aload_n 1, 1) := by decide +kernel
theorem dL_law_530 : decode cL_law 530 = .ok (.aload_n 3, 1) := by decide +kernel
theorem dL_law_531 : decode cL_law 531 = .ok (.invokestatic 98, 3) := by decide +kernel
theorem dL_law_534 : decode cL_law 534 = .ok (.istore 5, 2) := by decide +kernel
theorem dL_law_536 : decode cL_law 536 = .ok (.aload_n 2, 1) := by decide +kernel
theorem dL_law_537 : decode cL_law 537 = .ok (.invokevirtual 101, 3) := by decide +kernel
theorem dL_law_540 : decode cL_law 540 = .ok (.istore 6, 2) := by decide +kernel
theorem dL_law_542 : decode cL_law 542 = .ok (.aload_n 2, 1) := by decide +kernel
theorem dL_law_543 : decode cL_law 543 = .ok (.invokevirtual 84, 3) := by decide +kernel
theorem dL_law_546 : decode cL_law 546 = .ok (.iload 5, 2) := by decide +kernel
theorem dL_law_548 : decode cL_law 548 = .ok (.if_icmp .eq 5, 3) := by decide +kernel
theorem dL_law_551 : decode cL_law 551 = .ok (.iconst 0, 1) := by decide +kernel
theorem dL_law_552 : decode cL_law 552 = .ok (.ireturn, 1) := by decide +kernel
theorem dL_law_553 : decode cL_law 553 = .ok (.iload 5, 2) := by decide +kernel
theorem dL_law_555 : decode cL_law 555 = .ok (.ifCond .ne 15, 3) := by decide +kernel
theorem dL_law_558 : decode cL_law 558 = .ok (.aload_n 3, 1) := by decide +kernel
theorem dL_law_559 : decode cL_law 559 = .ok (.iconst 0, 1) := by decide +kernel
theorem dL_law_560 : decode cL_law 560 = .ok (.laload, 1) := by decide +kernel
theorem dL_law_561 : decode cL_law 561 = .ok (.iload 6, 2) := by decide +kernel
theorem dL_law_563 : decode cL_law 563 = .ok (.i2l, 1) := by decide +kernel
theorem dL_law_564 : decode cL_law 564 = .ok (.lcmp, 1) := by decide +kernel
theorem dL_law_565 : decode cL_law 565 = .ok (.ifCond .eq 5, 3) := by decide +kernel
theorem dL_law_568 : decode cL_law 568 = .ok (.iconst 0, 1) := by decide +kernel
theorem dL_law_569 : decode cL_law 569 = .ok (.ireturn, 1) := by decide +kernel
theorem dL_law_570 : decode cL_law 570 = .ok (.goto 28, 3) := by decide +kernel
theorem dL_law_573 : decode cL_law 573 = .ok (.aload_n 1, 1) := by decide +kernel
theorem dL_law_574 : decode cL_law 574 = .ok (.aload_n 0, 1) := by decide +kernel
theorem dL_law_575 : decode cL_law 575 = .ok (.iload 4, 2) := by decide +kernel
theorem dL_law_577 : decode cL_law 577 = .ok (.iconst 1, 1) := by decide +kernel
theorem dL_law_578 : decode cL_law 578 = .ok (.iadd, 1) := by decide +kernel
theorem dL_law_579 : decode cL_law 579 = .ok (.iaload, 1) := by decide +kernel
theorem dL_law_580 : decode cL_law 580 = .ok (.invokevirtual 102, 3) := by decide +kernel
theorem dL_law_583 : decode cL_law 583 = .ok (.aload_n 2, 1) := by decide +kernel
theorem dL_law_584 : decode cL_law 584 = .ok (.aload_n 0, 1) := by decide +kernel
theorem dL_law_585 : decode cL_law 585 = .ok (.iload 4, 2) := by decide +kernel
theorem dL_law_587 : decode cL_law 587 = .ok (.iconst 1, 1) := by decide +kernel
theorem dL_law_588 : decode cL_law 588 = .ok (.iadd, 1) := by decide +kernel
theorem dL_law_589 : decode cL_law 589 = .ok (.iaload, 1) := by decide +kernel
theorem dL_law_590 : decode cL_law 590 = .ok (.invokevirtual 105, 3) := by decide +kernel
theorem dL_law_593 : decode cL_law 593 = .ok (.if_icmp .eq 5, 3) := by decide +kernel
theorem dL_law_596 : decode cL_law 596 = .ok (.iconst 0, 1) := by decide +kernel
theorem dL_law_597 : decode cL_law 597 = .ok (.ireturn, 1) := by decide +kernel
theorem dL_law_598 : decode cL_law 598 = .ok (.iinc 4 3, 3) := by decide +kernel
theorem dL_law_601 : decode cL_law 601 = .ok (.goto (-578), 3) := by decide +kernel
theorem dL_law_604 : decode cL_law 604 = .ok (.iconst 1, 1) := by decide +kernel
theorem dL_law_605 : decode cL_law 605 = .ok (.ireturn, 1) := by decide +kernel
end
section
def TW : List Cond := lw_tbl.filter goodWord
theorem twp {w : Cond} (n : Nat) (h : lw_tbl[n]? = some w) (hg : goodWord w = true) : w ∈ TW := List.mem_filter.mpr ⟨List.mem_of_getElem? h, hg⟩
theorem tw_good : ∀ w ∈ TW, goodWord w = true := fun w h => (List.mem_filter.mp h).2
theorem tw_in : ∀ w ∈ TW, w ∈ lw_tbl := fun w h => (List.mem_filter.mp h).1
theorem twq1 {w : Cond} (h : w ∈ tables_1_1) (hg : goodWord w = true) : w ∈ TW := List.mem_filter.mpr ⟨List.mem_append_right _ (show w ∈ tables_1 from List.mem_append_left _ h), hg⟩
theorem twq2 {w : Cond} (h : w ∈ tables_1_2) (hg : goodWord w = true) : w ∈ TW := List.mem_filter.mpr ⟨List.mem_append_right _ (show w ∈ tables_1 from List.mem_append_right _ (List.mem_append_left _ h)), hg⟩
theorem twq3 {w : Cond} (h : w ∈ tables_1_3) (hg : goodWord w = true) : w ∈ TW := List.mem_filter.mpr ⟨List.mem_append_right _ (show w ∈ tables_1 from List.mem_append_right _ (List.mem_append_right _ (List.mem_append_left _ h))), hg⟩
theorem twq4 {w : Cond} (h : w ∈ tables_1_4) (hg : goodWord w = true) : w ∈ TW := List.mem_filter.mpr ⟨List.mem_append_right _ (show w ∈ tables_1 from List.mem_append_right _ (List.mem_append_right _ (List.mem_append_right _ (List.mem_append_left _ h)))), hg⟩
theorem twq5 {w : Cond} (h : w ∈ tables_1_5) (hg : goodWord w = true) : w ∈ TW := List.mem_filter.mpr ⟨List.mem_append_right _ (show w ∈ tables_1 from List.mem_append_right _ (List.mem_append_right _ (List.mem_append_right _ (List.mem_append_right _ (h))))), hg⟩
theorem tw_0 : (Cond.selects RX7 yX7_reset yX7_reset : Cond) ∈ TW := twp 0 (by decide +kernel) (by decide +kernel)
theorem tw_1 : (Cond.selects RX7 yX7_take yX7_take : Cond) ∈ TW := twp 1 (by decide +kernel) (by decide +kernel)
theorem tw_2 : (Cond.selects RX7 yX7_takeFurther yX7_takeFurther : Cond) ∈ TW := twp 2 (by decide +kernel) (by decide +kernel)
theorem tw_3 : (Cond.selects RX5 yX5_regionStart yX5_regionStart : Cond) ∈ TW := twp 3 (by decide +kernel) (by decide +kernel)
theorem tw_4 : (Cond.selects RX5 yX5_regionEnd yX5_regionEnd : Cond) ∈ TW := twp 4 (by decide +kernel) (by decide +kernel)
theorem tw_5 : (Cond.selects RX5 yX5_cell yX5_cell : Cond) ∈ TW := twp 5 (by decide +kernel) (by decide +kernel)
theorem tw_6 : (Cond.selects RX5 yX5_rowStart yX5_rowStart : Cond) ∈ TW := twp 6 (by decide +kernel) (by decide +kernel)
theorem tw_7 : (Cond.selects RX5 yX5_rowEnd yX5_rowEnd : Cond) ∈ TW := twp 7 (by decide +kernel) (by decide +kernel)
theorem tw_8 : (Cond.selects RX7 yX7_control yX7_control : Cond) ∈ TW := twp 8 (by decide +kernel) (by decide +kernel)
theorem tw_9 : (Cond.selects RX7 yX7_takeInGround yX7_takeInGround : Cond) ∈ TW := twp 9 (by decide +kernel) (by decide +kernel)
theorem tw_10 : (Cond.selects RX1 yX1_start yX1_start : Cond) ∈ TW := twp 10 (by decide +kernel) (by decide +kernel)
theorem tw_11 : (Cond.selects RX7 yX7_takeInEscape yX7_takeInEscape : Cond) ∈ TW := twp 11 (by decide +kernel) (by decide +kernel)
theorem tw_12 : (Cond.selects RX7 yX7_takeInTitle yX7_takeInTitle : Cond) ∈ TW := twp 12 (by decide +kernel) (by decide +kernel)
theorem tw_13 : (Cond.selects RX7 yX7_takeBeforeEnd yX7_takeBeforeEnd : Cond) ∈ TW := twp 13 (by decide +kernel) (by decide +kernel)
theorem tw_14 : (Cond.selects RX7 yX7_doSequence yX7_doSequence : Cond) ∈ TW := twp 14 (by decide +kernel) (by decide +kernel)
theorem tw_15 : (Cond.selects RX7 yX7_doPrivate yX7_doPrivate : Cond) ∈ TW := twp 15 (by decide +kernel) (by decide +kernel)
theorem tw_16 : (Cond.selects RX5 yX5_showPage yX5_showPage : Cond) ∈ TW := twp 16 (by decide +kernel) (by decide +kernel)
theorem tw_17 : (Cond.selects RX5 yX5_clearWithin yX5_clearWithin : Cond) ∈ TW := twp 17 (by decide +kernel) (by decide +kernel)
theorem tw_18 : (Cond.selects RX5 yX5_isInRegion yX5_isInRegion : Cond) ∈ TW := twp 18 (by decide +kernel) (by decide +kernel)
theorem tw_19 : (Cond.selects RX7 yX7_paintAll yX7_paintAll : Cond) ∈ TW := twp 19 (by decide +kernel) (by decide +kernel)
theorem tw_20 : (Cond.selects RX0 yX0_setColour yX0_setColour : Cond) ∈ TW := twp 20 (by decide +kernel) (by decide +kernel)
theorem tw_21 : (Cond.selects RX0 yX0_setGround yX0_setGround : Cond) ∈ TW := twp 21 (by decide +kernel) (by decide +kernel)
theorem tw_22 : (Cond.selects RX0 yX0_paintColour yX0_paintColour : Cond) ∈ TW := twp 22 (by decide +kernel) (by decide +kernel)
theorem tw_23 : (Cond.selects RX7 yX7_switchInsert yX7_switchInsert : Cond) ∈ TW := twp 23 (by decide +kernel) (by decide +kernel)
theorem tw_24 : (Cond.selects RX7 yX7_answer yX7_answer : Cond) ∈ TW := twp 24 (by decide +kernel) (by decide +kernel)
theorem tw_25 : (Cond.selects RX4 yX4_hasRoom yX4_hasRoom : Cond) ∈ TW := twp 25 (by decide +kernel) (by decide +kernel)
theorem tw_26 : (Cond.selects RX4 yX4_add yX4_add : Cond) ∈ TW := twp 26 (by decide +kernel) (by decide +kernel)
theorem tw_28 : (Cond.selects RX8 yX8_first yX8_first : Cond) ∈ TW := twp 28 (by decide +kernel) (by decide +kernel)
theorem tw_29 : (Cond.selects RX8 yX8_blank yX8_blank : Cond) ∈ TW := twp 29 (by decide +kernel) (by decide +kernel)
theorem tw_30 : (Cond.selects RX8 yX8_place yX8_place : Cond) ∈ TW := twp 30 (by decide +kernel) (by decide +kernel)
theorem tw_31 : (Cond.selects RX8 yX8_setPen yX8_setPen : Cond) ∈ TW := twp 31 (by decide +kernel) (by decide +kernel)
theorem tw_32 : (Cond.selects RX8 yX8_save yX8_save : Cond) ∈ TW := twp 32 (by decide +kernel) (by decide +kernel)
theorem tw_33 : (Cond.selects RX8 yX8_penNow yX8_penNow : Cond) ∈ TW := twp 33 (by decide +kernel) (by decide +kernel)
theorem tw_34 : (Cond.selects RX8 yX8_take yX8_take : Cond) ∈ TW := twp 34 (by decide +kernel) (by decide +kernel)
theorem tw_35 : (Cond.selects RX8 yX8_further yX8_further : Cond) ∈ TW := twp 35 (by decide +kernel) (by decide +kernel)
theorem tw_36 : (Cond.selects RX8 yX8_print yX8_print : Cond) ∈ TW := twp 36 (by decide +kernel) (by decide +kernel)
theorem tw_37 : (Cond.selects RX8 yX8_feeding yX8_feeding : Cond) ∈ TW := twp 37 (by decide +kernel) (by decide +kernel)
theorem tw_38 : (Cond.selects RX8 yX8_shiftRows yX8_shiftRows : Cond) ∈ TW := twp 38 (by decide +kernel) (by decide +kernel)
theorem tw_39 : (Cond.selects RX8 yX8_remember yX8_remember : Cond) ∈ TW := twp 39 (by decide +kernel) (by decide +kernel)
theorem tw_40 : (Cond.selects RX8 yX8_recall yX8_recall : Cond) ∈ TW := twp 40 (by decide +kernel) (by decide +kernel)
theorem tw_41 : (Cond.selects RX8 yX8_shiftCells yX8_shiftCells : Cond) ∈ TW := twp 41 (by decide +kernel) (by decide +kernel)
theorem tw_42 : (Cond.selects RX8 yX8_control yX8_control : Cond) ∈ TW := twp 42 (by decide +kernel) (by decide +kernel)
theorem tw_43 : (Cond.selects RX8 yX8_letterByte yX8_letterByte : Cond) ∈ TW := twp 43 (by decide +kernel) (by decide +kernel)
theorem tw_44 : (Cond.selects RX8 yX8_sequenceByte yX8_sequenceByte : Cond) ∈ TW := twp 44 (by decide +kernel) (by decide +kernel)
theorem tw_45 : (Cond.selects RX8 yX8_escape yX8_escape : Cond) ∈ TW := twp 45 (by decide +kernel) (by decide +kernel)
theorem tw_46 : (Cond.selects RX8 yX8_bring yX8_bring : Cond) ∈ TW := twp 46 (by decide +kernel) (by decide +kernel)
theorem tw_47 : (Cond.selects RX8 yX8_backing yX8_backing : Cond) ∈ TW := twp 47 (by decide +kernel) (by decide +kernel)
theorem tw_48 : (Cond.selects RX8 yX8_sequence yX8_sequence : Cond) ∈ TW := twp 48 (by decide +kernel) (by decide +kernel)
theorem tw_49 : (Cond.selects RX8 yX8_privately yX8_privately : Cond) ∈ TW := twp 49 (by decide +kernel) (by decide +kernel)
theorem tw_50 : (Cond.selects RX8 yX8_kept yX8_kept : Cond) ∈ TW := twp 50 (by decide +kernel) (by decide +kernel)
theorem tw_51 : (Cond.selects RX8 yX8_home yX8_home : Cond) ∈ TW := twp 51 (by decide +kernel) (by decide +kernel)
theorem tw_52 : (Cond.selects RX8 yX8_clear yX8_clear : Cond) ∈ TW := twp 52 (by decide +kernel) (by decide +kernel)
theorem tw_53 : (Cond.selects RX8 yX8_doIt yX8_doIt : Cond) ∈ TW := twp 53 (by decide +kernel) (by decide +kernel)
theorem tw_54 : (Cond.selects RX8 yX8_above yX8_above : Cond) ∈ TW := twp 54 (by decide +kernel) (by decide +kernel)
theorem tw_55 : (Cond.selects RX8 yX8_below yX8_below : Cond) ∈ TW := twp 55 (by decide +kernel) (by decide +kernel)
theorem tw_56 : (Cond.selects RX8 yX8_change yX8_change : Cond) ∈ TW := twp 56 (by decide +kernel) (by decide +kernel)
theorem tw_57 : (Cond.selects RX8 yX8_set yX8_set : Cond) ∈ TW := twp 57 (by decide +kernel) (by decide +kernel)
theorem tw_58 : (Cond.selects RX8 yX8_dip yX8_dip : Cond) ∈ TW := twp 58 (by decide +kernel) (by decide +kernel)
theorem tw_59 : (Cond.selects RX8 yX8_answer yX8_answer : Cond) ∈ TW := twp 59 (by decide +kernel) (by decide +kernel)
theorem tw_60 : (Cond.selects RX8 yX8_put yX8_put : Cond) ∈ TW := twp 60 (by decide +kernel) (by decide +kernel)
theorem tw_61 : (Cond.selects RX8 yX8_titleByte yX8_titleByte : Cond) ∈ TW := twp 61 (by decide +kernel) (by decide +kernel)
theorem tw_62 : (Cond.selects RX8 yX8_isCell yX8_isCell : Cond) ∈ TW := twp 62 (by decide +kernel) (by decide +kernel)
theorem tw_63 : (Cond.initialized RL : Cond) ∈ TW := twq1 (List.mem_of_getElem? (i := 0) rfl) rfl
theorem tw_64 : (Cond.initialized RX7 : Cond) ∈ TW := twq1 (List.mem_of_getElem? (i := 1) rfl) rfl
theorem tw_65 : (Cond.initialized RX5 : Cond) ∈ TW := twq1 (List.mem_of_getElem? (i := 2) rfl) rfl
theorem tw_66 : (Cond.initialized RX3 : Cond) ∈ TW := twq1 (List.mem_of_getElem? (i := 3) rfl) rfl
theorem tw_67 : (Cond.initialized RX0 : Cond) ∈ TW := twq1 (List.mem_of_getElem? (i := 4) rfl) rfl
theorem tw_68 : (Cond.initialized RX1 : Cond) ∈ TW := twq1 (List.mem_of_getElem? (i := 5) rfl) rfl
theorem tw_69 : (Cond.initialized RX2 : Cond) ∈ TW := twq1 (List.mem_of_getElem? (i := 6) rfl) rfl
theorem tw_70 : (Cond.initialized RX6 : Cond) ∈ TW := twq1 (List.mem_of_getElem? (i := 7) rfl) rfl
theorem tw_71 : (Cond.initialized RX4 : Cond) ∈ TW := twq1 (List.mem_of_getElem? (i := 8) rfl) rfl
theorem tw_72 : (Cond.initialized RX8 : Cond) ∈ TW := twq1 (List.mem_of_getElem? (i := 9) rfl) rfl
theorem tw_73 : (Cond.initialized RJ9 : Cond) ∈ TW := twq1 (List.mem_of_getElem? (i := 10) rfl) rfl
theorem tw_74 : (Cond.initialized "java/lang/Throwable" : Cond) ∈ TW := twq1 (List.mem_of_getElem? (i := 11) rfl) rfl
theorem tw_75 : (Cond.initialized "java/lang/Exception" : Cond) ∈ TW := twq1 (List.mem_of_getElem? (i := 12) rfl) rfl
theorem tw_76 : (Cond.initialized "java/lang/RuntimeException" : Cond) ∈ TW := twq1 (List.mem_of_getElem? (i := 13) rfl) rfl
theorem tw_77 : (Cond.initialized "java/lang/IndexOutOfBoundsException" : Cond) ∈ TW := twq1 (List.mem_of_getElem? (i := 14) rfl) rfl
theorem tw_78 : (Cond.initialized "java/util/NoSuchElementException" : Cond) ∈ TW := twq1 (List.mem_of_getElem? (i := 15) rfl) rfl
theorem tw_79 : (Cond.classLink RL 8 RX7 : Cond) ∈ TW := twq1 (List.mem_of_getElem? (i := 16) rfl) rfl
theorem tw_80 : (Cond.instantiable RX7 7 : Cond) ∈ TW := twq1 (List.mem_of_getElem? (i := 17) rfl) rfl
theorem tw_81 : (Cond.methodLink RL 24 yX7_init : Cond) ∈ TW := twq1 (List.mem_of_getElem? (i := 18) rfl) rfl
theorem tw_82 : (Cond.instanceMethod yX7_init : Cond) ∈ TW := twq1 (List.mem_of_getElem? (i := 19) rfl) rfl
theorem tw_83 : (Cond.code yX7_init cX7_init 1 none : Cond) ∈ TW := twq1 (List.mem_of_getElem? (i := 20) rfl) rfl
theorem tw_84 : (Cond.methodLink RX7 3 objectInit : Cond) ∈ TW := twq1 (List.mem_of_getElem? (i := 21) rfl) rfl
theorem tw_85 : (Cond.instanceMethod objectInit : Cond) ∈ TW := twq1 (List.mem_of_getElem? (i := 22) rfl) rfl
theorem tw_86 : (Cond.code objectInit ⟨#[0xb1]⟩ 1 none : Cond) ∈ TW := twq1 (List.mem_of_getElem? (i := 23) rfl) rfl
theorem tw_87 : (Cond.classLink RX7 9 RX5 : Cond) ∈ TW := twq1 (List.mem_of_getElem? (i := 24) rfl) rfl
theorem tw_88 : (Cond.instantiable RX5 12 : Cond) ∈ TW := twq1 (List.mem_of_getElem? (i := 25) rfl) rfl
theorem tw_90 : (Cond.instanceMethod yX5_init : Cond) ∈ TW := twq1 (List.mem_of_getElem? (i := 27) rfl) rfl
theorem tw_91 : (Cond.code yX5_init cX5_init 1 none : Cond) ∈ TW := twq1 (List.mem_of_getElem? (i := 28) rfl) rfl
theorem tw_92 : (Cond.methodLink RX5 3 objectInit : Cond) ∈ TW := twq1 (List.mem_of_getElem? (i := 29) rfl) rfl
theorem tw_93 : (Cond.classLink RX5 9 RX3 : Cond) ∈ TW := twq1 (List.mem_of_getElem? (i := 30) rfl) rfl
theorem tw_94 : (Cond.instantiable RX3 2 : Cond) ∈ TW := twq1 (List.mem_of_getElem? (i := 31) rfl) rfl
theorem tw_96 : (Cond.instanceMethod yX3_init : Cond) ∈ TW := twq1 (List.mem_of_getElem? (i := 33) rfl) rfl
theorem tw_97 : (Cond.code yX3_init cX3_init 1 none : Cond) ∈ TW := twq1 (List.mem_of_getElem? (i := 34) rfl) rfl
theorem tw_98 : (Cond.methodLink RX3 3 objectInit : Cond) ∈ TW := twq1 (List.mem_of_getElem? (i := 35) rfl) rfl
theorem tw_99 : (Cond.fieldLink RX3 9 "ScreenDesk$Page" "codes" "[I" : Cond) ∈ TW := twq1 (List.mem_of_getElem? (i := 36) rfl) rfl
theorem tw_100 : (Cond.fieldLink RX7 113 "ScreenDesk$Page" "codes" "[I" : Cond) ∈ TW := twq1 (List.mem_of_getElem? (i := 37) rfl) rfl
theorem tw_101 : (Cond.fieldLink RX3 15 "ScreenDesk$Page" "looks" "[I" : Cond) ∈ TW := twq1 (List.mem_of_getElem? (i := 38) rfl) rfl
theorem tw_102 : (Cond.fieldLink RX7 119 "ScreenDesk$Page" "looks" "[I" : Cond) ∈ TW := twq1 (List.mem_of_getElem? (i := 39) rfl) rfl
theorem tw_108 : (Cond.arrayClass .int : Cond) ∈ TW := twq1 (List.mem_of_getElem? (i := 45) rfl) rfl
theorem tw_109 : (Cond.classLink RX5 21 RX0 : Cond) ∈ TW := twq1 (List.mem_of_getElem? (i := 46) rfl) rfl
theorem tw_110 : (Cond.instantiable RX0 5 : Cond) ∈ TW := twq1 (List.mem_of_getElem? (i := 47) rfl) rfl
theorem tw_112 : (Cond.instanceMethod yX0_init : Cond) ∈ TW := twq1 (List.mem_of_getElem? (i := 49) rfl) rfl
theorem tw_113 : (Cond.code yX0_init cX0_init 1 none : Cond) ∈ TW := twq1 (List.mem_of_getElem? (i := 50) rfl) rfl
theorem tw_114 : (Cond.methodLink RX0 3 objectInit : Cond) ∈ TW := twq1 (List.mem_of_getElem? (i := 51) rfl) rfl
theorem tw_115 : (Cond.fieldLink RX0 23 "ScreenDesk$Cursor" "row" "I" : Cond) ∈ TW := twq1 (List.mem_of_getElem? (i := 52) rfl) rfl
theorem tw_116 : (Cond.fieldLink RX7 62 "ScreenDesk$Cursor" "row" "I" : Cond) ∈ TW := twq1 (List.mem_of_getElem? (i := 53) rfl) rfl
theorem tw_117 : (Cond.fieldLink RX5 108 "ScreenDesk$Cursor" "row" "I" : Cond) ∈ TW := twq1 (List.mem_of_getElem? (i := 54) rfl) rfl
theorem tw_118 : (Cond.fieldLink RX0 26 "ScreenDesk$Cursor" "column" "I" : Cond) ∈ TW := twq1 (List.mem_of_getElem? (i := 55) rfl) rfl
theorem tw_119 : (Cond.fieldLink RX7 67 "ScreenDesk$Cursor" "column" "I" : Cond) ∈ TW := twq1 (List.mem_of_getElem? (i := 56) rfl) rfl
theorem tw_120 : (Cond.fieldLink RX5 71 "ScreenDesk$Cursor" "column" "I" : Cond) ∈ TW := twq1 (List.mem_of_getElem? (i := 57) rfl) rfl
theorem tw_121 : (Cond.fieldLink RX0 29 "ScreenDesk$Cursor" "full" "Z" : Cond) ∈ TW := twq1 (List.mem_of_getElem? (i := 58) rfl) rfl
theorem tw_122 : (Cond.fieldLink RX5 68 "ScreenDesk$Cursor" "full" "Z" : Cond) ∈ TW := twq1 (List.mem_of_getElem? (i := 59) rfl) rfl
theorem tw_123 : (Cond.fieldLink RX7 70 "ScreenDesk$Cursor" "full" "Z" : Cond) ∈ TW := twq1 (List.mem_of_getElem? (i := 60) rfl) rfl
theorem tw_124 : (Cond.fieldLink RX0 15 "ScreenDesk$Cursor" "pen" "I" : Cond) ∈ TW := twq1 (List.mem_of_getElem? (i := 61) rfl) rfl
theorem tw_125 : (Cond.fieldLink RX5 92 "ScreenDesk$Cursor" "pen" "I" : Cond) ∈ TW := twq1 (List.mem_of_getElem? (i := 62) rfl) rfl
theorem tw_126 : (Cond.fieldLink RX7 74 "ScreenDesk$Cursor" "pen" "I" : Cond) ∈ TW := twq1 (List.mem_of_getElem? (i := 63) rfl) rfl
theorem tw_127 : (Cond.fieldLink RX0 19 "ScreenDesk$Cursor" "origin" "Z" : Cond) ∈ TW := twq1 (List.mem_of_getElem? (i := 64) rfl) rfl
theorem tw_128 : (Cond.fieldLink RX7 80 "ScreenDesk$Cursor" "origin" "Z" : Cond) ∈ TW := twq1 (List.mem_of_getElem? (i := 65) rfl) rfl
theorem tw_129 : (Cond.fieldLink RX5 139 "ScreenDesk$Cursor" "origin" "Z" : Cond) ∈ TW := twq1 (List.mem_of_getElem? (i := 66) rfl) rfl
theorem tw_141 : (Cond.fieldLink RX5 12 "ScreenDesk$Screen" "firstPage" "LScreenDesk$Page;" : Cond) ∈ TW := twq1 (List.mem_of_getElem? (i := 78) rfl) rfl
theorem tw_142 : (Cond.fieldLink RX5 18 "ScreenDesk$Screen" "secondPage" "LScreenDesk$Page;" : Cond) ∈ TW := twq1 (List.mem_of_getElem? (i := 79) rfl) rfl
theorem tw_143 : (Cond.fieldLink RX5 24 "ScreenDesk$Screen" "cursor" "LScreenDesk$Cursor;" : Cond) ∈ TW := twq1 (List.mem_of_getElem? (i := 80) rfl) rfl
theorem tw_144 : (Cond.fieldLink RX7 58 "ScreenDesk$Screen" "cursor" "LScreenDesk$Cursor;" : Cond) ∈ TW := twq1 (List.mem_of_getElem? (i := 81) rfl) rfl
theorem tw_145 : (Cond.fieldLink RX5 28 "ScreenDesk$Screen" "saved" "LScreenDesk$Cursor;" : Cond) ∈ TW := twq1 (List.mem_of_getElem? (i := 82) rfl) rfl
theorem tw_146 : (Cond.fieldLink RX5 38 "ScreenDesk$Screen" "top" "I" : Cond) ∈ TW := twq1 (List.mem_of_getElem? (i := 83) rfl) rfl
theorem tw_147 : (Cond.fieldLink RX7 89 "ScreenDesk$Screen" "top" "I" : Cond) ∈ TW := twq1 (List.mem_of_getElem? (i := 84) rfl) rfl
theorem tw_148 : (Cond.fieldLink RX5 42 "ScreenDesk$Screen" "bottom" "I" : Cond) ∈ TW := twq1 (List.mem_of_getElem? (i := 85) rfl) rfl
theorem tw_149 : (Cond.fieldLink RX7 92 "ScreenDesk$Screen" "bottom" "I" : Cond) ∈ TW := twq1 (List.mem_of_getElem? (i := 86) rfl) rfl
theorem tw_150 : (Cond.fieldLink RX5 45 "ScreenDesk$Screen" "tabStops" "I" : Cond) ∈ TW := twq1 (List.mem_of_getElem? (i := 87) rfl) rfl
theorem tw_151 : (Cond.fieldLink RX5 48 "ScreenDesk$Screen" "insert" "Z" : Cond) ∈ TW := twq1 (List.mem_of_getElem? (i := 88) rfl) rfl
theorem tw_152 : (Cond.fieldLink RX7 77 "ScreenDesk$Screen" "insert" "Z" : Cond) ∈ TW := twq1 (List.mem_of_getElem? (i := 89) rfl) rfl
theorem tw_153 : (Cond.fieldLink RX5 52 "ScreenDesk$Screen" "wrap" "Z" : Cond) ∈ TW := twq1 (List.mem_of_getElem? (i := 90) rfl) rfl
theorem tw_154 : (Cond.fieldLink RX7 83 "ScreenDesk$Screen" "wrap" "Z" : Cond) ∈ TW := twq1 (List.mem_of_getElem? (i := 91) rfl) rfl
theorem tw_155 : (Cond.fieldLink RX5 55 "ScreenDesk$Screen" "secondShown" "Z" : Cond) ∈ TW := twq1 (List.mem_of_getElem? (i := 92) rfl) rfl
theorem tw_156 : (Cond.fieldLink RX7 86 "ScreenDesk$Screen" "secondShown" "Z" : Cond) ∈ TW := twq1 (List.mem_of_getElem? (i := 93) rfl) rfl
theorem tw_157 : (Cond.fieldLink RX5 58 "ScreenDesk$Screen" "bellsRung" "I" : Cond) ∈ TW := twq1 (List.mem_of_getElem? (i := 94) rfl) rfl
theorem tw_158 : (Cond.fieldLink RX7 99 "ScreenDesk$Screen" "bellsRung" "I" : Cond) ∈ TW := twq1 (List.mem_of_getElem? (i := 95) rfl) rfl
theorem tw_159 : (Cond.fieldLink RX5 61 "ScreenDesk$Screen" "lastCode" "I" : Cond) ∈ TW := twq1 (List.mem_of_getElem? (i := 96) rfl) rfl
theorem tw_185 : (Cond.classLink RX7 16 RX1 : Cond) ∈ TW := twq1 (List.mem_of_getElem? (i := 122) rfl) rfl
theorem tw_186 : (Cond.instantiable RX1 3 : Cond) ∈ TW := twq1 (List.mem_of_getElem? (i := 123) rfl) rfl
theorem tw_188 : (Cond.instanceMethod yX1_init : Cond) ∈ TW := twq1 (List.mem_of_getElem? (i := 125) rfl) rfl
theorem tw_189 : (Cond.code yX1_init cX1_init 1 none : Cond) ∈ TW := twq1 (List.mem_of_getElem? (i := 126) rfl) rfl
theorem tw_190 : (Cond.methodLink RX1 3 objectInit : Cond) ∈ TW := twq1 (List.mem_of_getElem? (i := 127) rfl) rfl
theorem tw_191 : (Cond.fieldLink RX1 9 "ScreenDesk$Letter" "missing" "I" : Cond) ∈ TW := twq1 (List.mem_of_getElem? (i := 128) rfl) rfl
theorem tw_192 : (Cond.fieldLink RX7 151 "ScreenDesk$Letter" "missing" "I" : Cond) ∈ TW := twq1 (List.mem_of_getElem? (i := 129) rfl) rfl
theorem tw_193 : (Cond.fieldLink RX1 20 "ScreenDesk$Letter" "bits" "I" : Cond) ∈ TW := twq1 (List.mem_of_getElem? (i := 130) rfl) rfl
theorem tw_194 : (Cond.fieldLink RX1 23 "ScreenDesk$Letter" "least" "I" : Cond) ∈ TW := twq1 (List.mem_of_getElem? (i := 131) rfl) rfl
theorem tw_202 : (Cond.classLink RX7 23 RX2 : Cond) ∈ TW := twq1 (List.mem_of_getElem? (i := 139) rfl) rfl
theorem tw_203 : (Cond.instantiable RX2 3 : Cond) ∈ TW := twq1 (List.mem_of_getElem? (i := 140) rfl) rfl
theorem tw_205 : (Cond.instanceMethod yX2_init : Cond) ∈ TW := twq1 (List.mem_of_getElem? (i := 142) rfl) rfl
theorem tw_206 : (Cond.code yX2_init cX2_init 1 none : Cond) ∈ TW := twq1 (List.mem_of_getElem? (i := 143) rfl) rfl
theorem tw_207 : (Cond.methodLink RX2 3 objectInit : Cond) ∈ TW := twq1 (List.mem_of_getElem? (i := 144) rfl) rfl
theorem tw_208 : (Cond.fieldLink RX2 9 "ScreenDesk$Numbers" "values" "[I" : Cond) ∈ TW := twq1 (List.mem_of_getElem? (i := 145) rfl) rfl
theorem tw_209 : (Cond.fieldLink RX2 15 "ScreenDesk$Numbers" "begun" "I" : Cond) ∈ TW := twq1 (List.mem_of_getElem? (i := 146) rfl) rfl
theorem tw_210 : (Cond.fieldLink RX2 19 "ScreenDesk$Numbers" "secret" "Z" : Cond) ∈ TW := twq1 (List.mem_of_getElem? (i := 147) rfl) rfl
theorem tw_211 : (Cond.fieldLink RX7 221 "ScreenDesk$Numbers" "secret" "Z" : Cond) ∈ TW := twq1 (List.mem_of_getElem? (i := 148) rfl) rfl
theorem tw_219 : (Cond.classLink RX7 30 RX6 : Cond) ∈ TW := twq1 (List.mem_of_getElem? (i := 156) rfl) rfl
theorem tw_220 : (Cond.instantiable RX6 2 : Cond) ∈ TW := twq1 (List.mem_of_getElem? (i := 157) rfl) rfl
theorem tw_222 : (Cond.instanceMethod yX6_init : Cond) ∈ TW := twq1 (List.mem_of_getElem? (i := 159) rfl) rfl
theorem tw_223 : (Cond.code yX6_init cX6_init 1 none : Cond) ∈ TW := twq1 (List.mem_of_getElem? (i := 160) rfl) rfl
theorem tw_224 : (Cond.methodLink RX6 3 objectInit : Cond) ∈ TW := twq1 (List.mem_of_getElem? (i := 161) rfl) rfl
theorem tw_225 : (Cond.fieldLink RX6 9 "ScreenDesk$Text" "characters" "[I" : Cond) ∈ TW := twq1 (List.mem_of_getElem? (i := 162) rfl) rfl
theorem tw_226 : (Cond.fieldLink RX6 15 "ScreenDesk$Text" "length" "I" : Cond) ∈ TW := twq1 (List.mem_of_getElem? (i := 163) rfl) rfl
theorem tw_232 : (Cond.classLink RX7 40 RX4 : Cond) ∈ TW := twq1 (List.mem_of_getElem? (i := 169) rfl) rfl
theorem tw_233 : (Cond.instantiable RX4 2 : Cond) ∈ TW := twq1 (List.mem_of_getElem? (i := 170) rfl) rfl
theorem tw_235 : (Cond.instanceMethod yX4_init : Cond) ∈ TW := twq1 (List.mem_of_getElem? (i := 172) rfl) rfl
theorem tw_236 : (Cond.code yX4_init cX4_init 1 none : Cond) ∈ TW := twq1 (List.mem_of_getElem? (i := 173) rfl) rfl
theorem tw_237 : (Cond.methodLink RX4 3 objectInit : Cond) ∈ TW := twq1 (List.mem_of_getElem? (i := 174) rfl) rfl
theorem tw_238 : (Cond.fieldLink RX4 9 "ScreenDesk$Replies" "bytes" "[I" : Cond) ∈ TW := twq1 (List.mem_of_getElem? (i := 175) rfl) rfl
theorem tw_239 : (Cond.fieldLink RX4 15 "ScreenDesk$Replies" "held" "I" : Cond) ∈ TW := twq1 (List.mem_of_getElem? (i := 176) rfl) rfl
theorem tw_240 : (Cond.fieldLink RX7 126 "ScreenDesk$Replies" "held" "I" : Cond) ∈ TW := twq1 (List.mem_of_getElem? (i := 177) rfl) rfl
theorem tw_246 : (Cond.methodLink RX7 51 yX7_reset : Cond) ∈ TW := twq1 (List.mem_of_getElem? (i := 183) rfl) rfl
theorem tw_248 : (Cond.instanceMethod yX7_reset : Cond) ∈ TW := twq1 (List.mem_of_getElem? (i := 185) rfl) rfl
theorem tw_249 : (Cond.code yX7_reset cX7_reset 1 none : Cond) ∈ TW := twq1 (List.mem_of_getElem? (i := 186) rfl) rfl
theorem tw_250 : (Cond.methodLink RX7 140 yX5_reset : Cond) ∈ TW := twq1 (List.mem_of_getElem? (i := 187) rfl) rfl
theorem tw_251 : (Cond.instanceMethod yX5_reset : Cond) ∈ TW := twq1 (List.mem_of_getElem? (i := 188) rfl) rfl
theorem tw_252 : (Cond.selects RX5 yX5_reset yX5_reset : Cond) ∈ TW := twq1 (List.mem_of_getElem? (i := 189) rfl) rfl
theorem tw_253 : (Cond.code yX5_reset cX5_reset 1 none : Cond) ∈ TW := twq1 (List.mem_of_getElem? (i := 190) rfl) rfl
theorem tw_254 : (Cond.methodLink RX5 31 yX3_clear : Cond) ∈ TW := twq1 (List.mem_of_getElem? (i := 191) rfl) rfl
theorem tw_255 : (Cond.instanceMethod yX3_clear : Cond) ∈ TW := twq1 (List.mem_of_getElem? (i := 192) rfl) rfl
theorem tw_256 : (Cond.selects RX3 yX3_clear yX3_clear : Cond) ∈ TW := twq1 (List.mem_of_getElem? (i := 193) rfl) rfl
theorem tw_257 : (Cond.code yX3_clear cX3_clear 4 none : Cond) ∈ TW := twq1 (List.mem_of_getElem? (i := 194) rfl) rfl
theorem tw_258 : (Cond.methodLink RX5 35 yX0_reset : Cond) ∈ TW := twq1 (List.mem_of_getElem? (i := 195) rfl) rfl
theorem tw_259 : (Cond.instanceMethod yX0_reset : Cond) ∈ TW := twq1 (List.mem_of_getElem? (i := 196) rfl) rfl
theorem tw_260 : (Cond.selects RX0 yX0_reset yX0_reset : Cond) ∈ TW := twq1 (List.mem_of_getElem? (i := 197) rfl) rfl
theorem tw_261 : (Cond.code yX0_reset cX0_reset 1 none : Cond) ∈ TW := twq1 (List.mem_of_getElem? (i := 198) rfl) rfl
theorem tw_262 : (Cond.methodLink RX0 9 yX0_place : Cond) ∈ TW := twq1 (List.mem_of_getElem? (i := 199) rfl) rfl
theorem tw_263 : (Cond.instanceMethod yX0_place : Cond) ∈ TW := twq1 (List.mem_of_getElem? (i := 200) rfl) rfl
theorem tw_264 : (Cond.selects RX0 yX0_place yX0_place : Cond) ∈ TW := twq1 (List.mem_of_getElem? (i := 201) rfl) rfl
theorem tw_265 : (Cond.code yX0_place cX0_place 3 none : Cond) ∈ TW := twq1 (List.mem_of_getElem? (i := 202) rfl) rfl
theorem tw_266 : (Cond.methodLink RX7 141 yX1_drop : Cond) ∈ TW := twq1 (List.mem_of_getElem? (i := 203) rfl) rfl
theorem tw_267 : (Cond.instanceMethod yX1_drop : Cond) ∈ TW := twq1 (List.mem_of_getElem? (i := 204) rfl) rfl
theorem tw_268 : (Cond.selects RX1 yX1_drop yX1_drop : Cond) ∈ TW := twq1 (List.mem_of_getElem? (i := 205) rfl) rfl
theorem tw_269 : (Cond.code yX1_drop cX1_drop 1 none : Cond) ∈ TW := twq1 (List.mem_of_getElem? (i := 206) rfl) rfl
theorem tw_270 : (Cond.methodLink RX7 144 yX2_begin : Cond) ∈ TW := twq1 (List.mem_of_getElem? (i := 207) rfl) rfl
theorem tw_271 : (Cond.instanceMethod yX2_begin : Cond) ∈ TW := twq1 (List.mem_of_getElem? (i := 208) rfl) rfl
theorem tw_272 : (Cond.selects RX2 yX2_begin yX2_begin : Cond) ∈ TW := twq1 (List.mem_of_getElem? (i := 209) rfl) rfl
theorem tw_273 : (Cond.code yX2_begin cX2_begin 2 none : Cond) ∈ TW := twq1 (List.mem_of_getElem? (i := 210) rfl) rfl
theorem tw_274 : (Cond.methodLink RX7 147 yX6_clear : Cond) ∈ TW := twq1 (List.mem_of_getElem? (i := 211) rfl) rfl
theorem tw_275 : (Cond.instanceMethod yX6_clear : Cond) ∈ TW := twq1 (List.mem_of_getElem? (i := 212) rfl) rfl
theorem tw_276 : (Cond.selects RX6 yX6_clear yX6_clear : Cond) ∈ TW := twq1 (List.mem_of_getElem? (i := 213) rfl) rfl
theorem tw_277 : (Cond.code yX6_clear cX6_clear 1 none : Cond) ∈ TW := twq1 (List.mem_of_getElem? (i := 214) rfl) rfl
theorem tw_278 : (Cond.methodLink RX7 150 yX4_clear : Cond) ∈ TW := twq1 (List.mem_of_getElem? (i := 215) rfl) rfl
theorem tw_279 : (Cond.instanceMethod yX4_clear : Cond) ∈ TW := twq1 (List.mem_of_getElem? (i := 216) rfl) rfl
theorem tw_280 : (Cond.selects RX4 yX4_clear yX4_clear : Cond) ∈ TW := twq1 (List.mem_of_getElem? (i := 217) rfl) rfl
theorem tw_281 : (Cond.code yX4_clear cX4_clear 1 none : Cond) ∈ TW := twq1 (List.mem_of_getElem? (i := 218) rfl) rfl
theorem tw_282 : (Cond.fieldLink RX7 12 "ScreenDesk" "screen" "LScreenDesk$Screen;" : Cond) ∈ TW := twq1 (List.mem_of_getElem? (i := 219) rfl) rfl
theorem tw_283 : (Cond.fieldLink RX7 19 "ScreenDesk" "letter" "LScreenDesk$Letter;" : Cond) ∈ TW := twq1 (List.mem_of_getElem? (i := 220) rfl) rfl
theorem tw_284 : (Cond.fieldLink RX7 26 "ScreenDesk" "numbers" "LScreenDesk$Numbers;" : Cond) ∈ TW := twq1 (List.mem_of_getElem? (i := 221) rfl) rfl
theorem tw_285 : (Cond.fieldLink RX7 33 "ScreenDesk" "name" "LScreenDesk$Text;" : Cond) ∈ TW := twq1 (List.mem_of_getElem? (i := 222) rfl) rfl
theorem tw_286 : (Cond.fieldLink RX7 37 "ScreenDesk" "collected" "LScreenDesk$Text;" : Cond) ∈ TW := twq1 (List.mem_of_getElem? (i := 223) rfl) rfl
theorem tw_287 : (Cond.fieldLink RX7 43 "ScreenDesk" "replies" "LScreenDesk$Replies;" : Cond) ∈ TW := twq1 (List.mem_of_getElem? (i := 224) rfl) rfl
theorem tw_288 : (Cond.fieldLink RX7 47 "ScreenDesk" "stage" "I" : Cond) ∈ TW := twq1 (List.mem_of_getElem? (i := 225) rfl) rfl
theorem tw_304 : (Cond.methodLink RL 28 yX7_feed : Cond) ∈ TW := twq2 (List.mem_of_getElem? (i := 1) rfl) rfl
theorem tw_305 : (Cond.instanceMethod yX7_feed : Cond) ∈ TW := twq2 (List.mem_of_getElem? (i := 2) rfl) rfl
theorem tw_306 : (Cond.selects RX7 yX7_feed yX7_feed : Cond) ∈ TW := twq2 (List.mem_of_getElem? (i := 3) rfl) rfl
theorem tw_307 : (Cond.code yX7_feed cX7_feed 2 (some .boolean) : Cond) ∈ TW := twq2 (List.mem_of_getElem? (i := 4) rfl) rfl
theorem tw_308 : (Cond.methodLink RX7 54 yX7_take : Cond) ∈ TW := twq2 (List.mem_of_getElem? (i := 5) rfl) rfl
theorem tw_310 : (Cond.instanceMethod yX7_take : Cond) ∈ TW := twq2 (List.mem_of_getElem? (i := 7) rfl) rfl
theorem tw_311 : (Cond.code yX7_take cX7_take 2 none : Cond) ∈ TW := twq2 (List.mem_of_getElem? (i := 8) rfl) rfl
theorem tw_312 : (Cond.methodLink RX7 154 yX7_takeFurther : Cond) ∈ TW := twq2 (List.mem_of_getElem? (i := 9) rfl) rfl
theorem tw_314 : (Cond.instanceMethod yX7_takeFurther : Cond) ∈ TW := twq2 (List.mem_of_getElem? (i := 11) rfl) rfl
theorem tw_315 : (Cond.code yX7_takeFurther cX7_takeFurther 2 none : Cond) ∈ TW := twq2 (List.mem_of_getElem? (i := 12) rfl) rfl
theorem tw_316 : (Cond.methodLink RX7 179 yX1_add : Cond) ∈ TW := twq2 (List.mem_of_getElem? (i := 13) rfl) rfl
theorem tw_317 : (Cond.instanceMethod yX1_add : Cond) ∈ TW := twq2 (List.mem_of_getElem? (i := 14) rfl) rfl
theorem tw_318 : (Cond.selects RX1 yX1_add yX1_add : Cond) ∈ TW := twq2 (List.mem_of_getElem? (i := 15) rfl) rfl
theorem tw_319 : (Cond.code yX1_add cX1_add 2 none : Cond) ∈ TW := twq2 (List.mem_of_getElem? (i := 16) rfl) rfl
theorem tw_320 : (Cond.methodLink RX7 182 yX1_whole : Cond) ∈ TW := twq2 (List.mem_of_getElem? (i := 17) rfl) rfl
theorem tw_321 : (Cond.instanceMethod yX1_whole : Cond) ∈ TW := twq2 (List.mem_of_getElem? (i := 18) rfl) rfl
theorem tw_322 : (Cond.selects RX1 yX1_whole yX1_whole : Cond) ∈ TW := twq2 (List.mem_of_getElem? (i := 19) rfl) rfl
theorem tw_323 : (Cond.code yX1_whole cX1_whole 2 (some .int) : Cond) ∈ TW := twq2 (List.mem_of_getElem? (i := 20) rfl) rfl
theorem tw_324 : (Cond.constant RX1 26 (55296) : Cond) ∈ TW := twq2 (List.mem_of_getElem? (i := 21) rfl) rfl
theorem tw_325 : (Cond.constant RX1 27 (57343) : Cond) ∈ TW := twq2 (List.mem_of_getElem? (i := 22) rfl) rfl
theorem tw_326 : (Cond.constant RX1 28 (1114111) : Cond) ∈ TW := twq2 (List.mem_of_getElem? (i := 23) rfl) rfl
theorem tw_327 : (Cond.constant RX1 29 (65533) : Cond) ∈ TW := twq2 (List.mem_of_getElem? (i := 24) rfl) rfl
theorem tw_328 : (Cond.methodLink RX7 158 yX5_print : Cond) ∈ TW := twq2 (List.mem_of_getElem? (i := 25) rfl) rfl
theorem tw_329 : (Cond.instanceMethod yX5_print : Cond) ∈ TW := twq2 (List.mem_of_getElem? (i := 26) rfl) rfl
theorem tw_330 : (Cond.selects RX5 yX5_print yX5_print : Cond) ∈ TW := twq2 (List.mem_of_getElem? (i := 27) rfl) rfl
theorem tw_331 : (Cond.code yX5_print cX5_print 2 none : Cond) ∈ TW := twq2 (List.mem_of_getElem? (i := 28) rfl) rfl
theorem tw_332 : (Cond.methodLink RX5 74 yX5_feedRow : Cond) ∈ TW := twq2 (List.mem_of_getElem? (i := 29) rfl) rfl
theorem tw_333 : (Cond.instanceMethod yX5_feedRow : Cond) ∈ TW := twq2 (List.mem_of_getElem? (i := 30) rfl) rfl
theorem tw_334 : (Cond.selects RX5 yX5_feedRow yX5_feedRow : Cond) ∈ TW := twq2 (List.mem_of_getElem? (i := 31) rfl) rfl
theorem tw_335 : (Cond.code yX5_feedRow cX5_feedRow 1 none : Cond) ∈ TW := twq2 (List.mem_of_getElem? (i := 32) rfl) rfl
theorem tw_336 : (Cond.methodLink RX5 77 yX5_page : Cond) ∈ TW := twq2 (List.mem_of_getElem? (i := 33) rfl) rfl
theorem tw_337 : (Cond.instanceMethod yX5_page : Cond) ∈ TW := twq2 (List.mem_of_getElem? (i := 34) rfl) rfl
theorem tw_338 : (Cond.selects RX5 yX5_page yX5_page : Cond) ∈ TW := twq2 (List.mem_of_getElem? (i := 35) rfl) rfl
theorem tw_339 : (Cond.code yX5_page cX5_page 1 (some (.object "ScreenDesk$Page")) : Cond) ∈ TW := twq2 (List.mem_of_getElem? (i := 36) rfl) rfl
theorem tw_340 : (Cond.methodLink RX5 111 yX5_regionStart : Cond) ∈ TW := twq2 (List.mem_of_getElem? (i := 37) rfl) rfl
theorem tw_342 : (Cond.instanceMethod yX5_regionStart : Cond) ∈ TW := twq2 (List.mem_of_getElem? (i := 39) rfl) rfl
theorem tw_343 : (Cond.code yX5_regionStart cX5_regionStart 1 (some .int) : Cond) ∈ TW := twq2 (List.mem_of_getElem? (i := 40) rfl) rfl
theorem tw_344 : (Cond.methodLink RX5 114 yX5_regionEnd : Cond) ∈ TW := twq2 (List.mem_of_getElem? (i := 41) rfl) rfl
theorem tw_346 : (Cond.instanceMethod yX5_regionEnd : Cond) ∈ TW := twq2 (List.mem_of_getElem? (i := 43) rfl) rfl
theorem tw_347 : (Cond.code yX5_regionEnd cX5_regionEnd 1 (some .int) : Cond) ∈ TW := twq2 (List.mem_of_getElem? (i := 44) rfl) rfl
theorem tw_348 : (Cond.methodLink RX5 117 yX3_pull : Cond) ∈ TW := twq2 (List.mem_of_getElem? (i := 45) rfl) rfl
theorem tw_349 : (Cond.instanceMethod yX3_pull : Cond) ∈ TW := twq2 (List.mem_of_getElem? (i := 46) rfl) rfl
theorem tw_350 : (Cond.selects RX3 yX3_pull yX3_pull : Cond) ∈ TW := twq2 (List.mem_of_getElem? (i := 47) rfl) rfl
theorem tw_351 : (Cond.code yX3_pull cX3_pull 6 none : Cond) ∈ TW := twq2 (List.mem_of_getElem? (i := 48) rfl) rfl
theorem tw_352 : (Cond.methodLink RX5 81 yX5_cell : Cond) ∈ TW := twq2 (List.mem_of_getElem? (i := 49) rfl) rfl
theorem tw_354 : (Cond.instanceMethod yX5_cell : Cond) ∈ TW := twq2 (List.mem_of_getElem? (i := 51) rfl) rfl
theorem tw_355 : (Cond.code yX5_cell cX5_cell 1 (some .int) : Cond) ∈ TW := twq2 (List.mem_of_getElem? (i := 52) rfl) rfl
theorem tw_356 : (Cond.methodLink RX5 124 yX5_rowStart : Cond) ∈ TW := twq2 (List.mem_of_getElem? (i := 53) rfl) rfl
theorem tw_358 : (Cond.instanceMethod yX5_rowStart : Cond) ∈ TW := twq2 (List.mem_of_getElem? (i := 55) rfl) rfl
theorem tw_359 : (Cond.code yX5_rowStart cX5_rowStart 1 (some .int) : Cond) ∈ TW := twq2 (List.mem_of_getElem? (i := 56) rfl) rfl
theorem tw_360 : (Cond.methodLink RX5 85 yX5_rowEnd : Cond) ∈ TW := twq2 (List.mem_of_getElem? (i := 57) rfl) rfl
theorem tw_362 : (Cond.instanceMethod yX5_rowEnd : Cond) ∈ TW := twq2 (List.mem_of_getElem? (i := 59) rfl) rfl
theorem tw_363 : (Cond.code yX5_rowEnd cX5_rowEnd 1 (some .int) : Cond) ∈ TW := twq2 (List.mem_of_getElem? (i := 60) rfl) rfl
theorem tw_364 : (Cond.methodLink RX5 88 yX3_push : Cond) ∈ TW := twq2 (List.mem_of_getElem? (i := 61) rfl) rfl
theorem tw_365 : (Cond.instanceMethod yX3_push : Cond) ∈ TW := twq2 (List.mem_of_getElem? (i := 62) rfl) rfl
theorem tw_366 : (Cond.selects RX3 yX3_push yX3_push : Cond) ∈ TW := twq2 (List.mem_of_getElem? (i := 63) rfl) rfl
theorem tw_367 : (Cond.code yX3_push cX3_push 6 none : Cond) ∈ TW := twq2 (List.mem_of_getElem? (i := 64) rfl) rfl
theorem tw_368 : (Cond.methodLink RX5 95 yX3_put : Cond) ∈ TW := twq2 (List.mem_of_getElem? (i := 65) rfl) rfl
theorem tw_369 : (Cond.instanceMethod yX3_put : Cond) ∈ TW := twq2 (List.mem_of_getElem? (i := 66) rfl) rfl
theorem tw_370 : (Cond.selects RX3 yX3_put yX3_put : Cond) ∈ TW := twq2 (List.mem_of_getElem? (i := 67) rfl) rfl
theorem tw_371 : (Cond.code yX3_put cX3_put 4 none : Cond) ∈ TW := twq2 (List.mem_of_getElem? (i := 68) rfl) rfl
theorem tw_372 : (Cond.constant RX7 157 (65533) : Cond) ∈ TW := twq2 (List.mem_of_getElem? (i := 69) rfl) rfl
theorem tw_373 : (Cond.methodLink RX7 161 yX7_control : Cond) ∈ TW := twq2 (List.mem_of_getElem? (i := 70) rfl) rfl
theorem tw_375 : (Cond.instanceMethod yX7_control : Cond) ∈ TW := twq2 (List.mem_of_getElem? (i := 72) rfl) rfl
theorem tw_376 : (Cond.code yX7_control cX7_control 2 none : Cond) ∈ TW := twq2 (List.mem_of_getElem? (i := 73) rfl) rfl
theorem tw_377 : (Cond.methodLink RX7 187 yX5_moveLeft : Cond) ∈ TW := twq2 (List.mem_of_getElem? (i := 74) rfl) rfl
theorem tw_378 : (Cond.instanceMethod yX5_moveLeft : Cond) ∈ TW := twq2 (List.mem_of_getElem? (i := 75) rfl) rfl
theorem tw_379 : (Cond.selects RX5 yX5_moveLeft yX5_moveLeft : Cond) ∈ TW := twq2 (List.mem_of_getElem? (i := 76) rfl) rfl
theorem tw_380 : (Cond.code yX5_moveLeft cX5_moveLeft 2 none : Cond) ∈ TW := twq2 (List.mem_of_getElem? (i := 77) rfl) rfl
theorem tw_381 : (Cond.methodLink RX5 130 Lib.Math.max.name : Cond) ∈ TW := twq2 (List.mem_of_getElem? (i := 78) rfl) rfl
theorem tw_382 : (Cond.static Lib.Math.max.name : Cond) ∈ TW := twq2 (List.mem_of_getElem? (i := 79) rfl) rfl
theorem tw_383 : (Cond.code Lib.Math.max.name cJ9_max_7cf53 2 (some .int) : Cond) ∈ TW := twq2 (List.mem_of_getElem? (i := 80) rfl) rfl
theorem tw_384 : (Cond.methodLink RX5 136 yX5_moveToColumn : Cond) ∈ TW := twq2 (List.mem_of_getElem? (i := 81) rfl) rfl
theorem tw_385 : (Cond.instanceMethod yX5_moveToColumn : Cond) ∈ TW := twq2 (List.mem_of_getElem? (i := 82) rfl) rfl
theorem tw_386 : (Cond.selects RX5 yX5_moveToColumn yX5_moveToColumn : Cond) ∈ TW := twq2 (List.mem_of_getElem? (i := 83) rfl) rfl
theorem tw_387 : (Cond.code yX5_moveToColumn cX5_moveToColumn 2 none : Cond) ∈ TW := twq2 (List.mem_of_getElem? (i := 84) rfl) rfl
theorem tw_388 : (Cond.methodLink RX5 98 Lib.Math.min.name : Cond) ∈ TW := twq2 (List.mem_of_getElem? (i := 85) rfl) rfl
theorem tw_389 : (Cond.static Lib.Math.min.name : Cond) ∈ TW := twq2 (List.mem_of_getElem? (i := 86) rfl) rfl
theorem tw_390 : (Cond.code Lib.Math.min.name cJ9_min_7cf53 2 (some .int) : Cond) ∈ TW := twq2 (List.mem_of_getElem? (i := 87) rfl) rfl
theorem tw_391 : (Cond.methodLink RX5 133 yX0_place : Cond) ∈ TW := twq2 (List.mem_of_getElem? (i := 88) rfl) rfl
theorem tw_392 : (Cond.methodLink RX7 190 yX5_moveToTabStop : Cond) ∈ TW := twq2 (List.mem_of_getElem? (i := 89) rfl) rfl
theorem tw_393 : (Cond.instanceMethod yX5_moveToTabStop : Cond) ∈ TW := twq2 (List.mem_of_getElem? (i := 90) rfl) rfl
theorem tw_394 : (Cond.selects RX5 yX5_moveToTabStop yX5_moveToTabStop : Cond) ∈ TW := twq2 (List.mem_of_getElem? (i := 91) rfl) rfl
theorem tw_395 : (Cond.code yX5_moveToTabStop cX5_moveToTabStop 2 none : Cond) ∈ TW := twq2 (List.mem_of_getElem? (i := 92) rfl) rfl
theorem tw_396 : (Cond.methodLink RX5 142 yX5_hasTabStop : Cond) ∈ TW := twq2 (List.mem_of_getElem? (i := 93) rfl) rfl
theorem tw_397 : (Cond.instanceMethod yX5_hasTabStop : Cond) ∈ TW := twq2 (List.mem_of_getElem? (i := 94) rfl) rfl
theorem tw_398 : (Cond.selects RX5 yX5_hasTabStop yX5_hasTabStop : Cond) ∈ TW := twq2 (List.mem_of_getElem? (i := 95) rfl) rfl
theorem tw_399 : (Cond.code yX5_hasTabStop cX5_hasTabStop 2 (some .boolean) : Cond) ∈ TW := twq2 (List.mem_of_getElem? (i := 96) rfl) rfl
theorem tw_400 : (Cond.methodLink RX7 193 yX5_feedRow : Cond) ∈ TW := twq2 (List.mem_of_getElem? (i := 97) rfl) rfl
theorem tw_401 : (Cond.methodLink RX7 196 yX5_moveToColumn : Cond) ∈ TW := twq2 (List.mem_of_getElem? (i := 98) rfl) rfl
theorem tw_402 : (Cond.methodLink RX7 164 yX7_takeInGround : Cond) ∈ TW := twq2 (List.mem_of_getElem? (i := 99) rfl) rfl
theorem tw_404 : (Cond.instanceMethod yX7_takeInGround : Cond) ∈ TW := twq2 (List.mem_of_getElem? (i := 101) rfl) rfl
theorem tw_405 : (Cond.code yX7_takeInGround cX7_takeInGround 2 none : Cond) ∈ TW := twq2 (List.mem_of_getElem? (i := 102) rfl) rfl
theorem tw_406 : (Cond.methodLink RX7 185 yX1_begin : Cond) ∈ TW := twq2 (List.mem_of_getElem? (i := 103) rfl) rfl
theorem tw_407 : (Cond.instanceMethod yX1_begin : Cond) ∈ TW := twq2 (List.mem_of_getElem? (i := 104) rfl) rfl
theorem tw_408 : (Cond.selects RX1 yX1_begin yX1_begin : Cond) ∈ TW := twq2 (List.mem_of_getElem? (i := 105) rfl) rfl
theorem tw_409 : (Cond.code yX1_begin cX1_begin 2 none : Cond) ∈ TW := twq2 (List.mem_of_getElem? (i := 106) rfl) rfl
theorem tw_410 : (Cond.methodLink RX1 15 yX1_start : Cond) ∈ TW := twq2 (List.mem_of_getElem? (i := 107) rfl) rfl
theorem tw_412 : (Cond.instanceMethod yX1_start : Cond) ∈ TW := twq2 (List.mem_of_getElem? (i := 109) rfl) rfl
theorem tw_413 : (Cond.code yX1_start cX1_start 4 none : Cond) ∈ TW := twq2 (List.mem_of_getElem? (i := 110) rfl) rfl
theorem tw_414 : (Cond.constant RX1 19 (65536) : Cond) ∈ TW := twq2 (List.mem_of_getElem? (i := 111) rfl) rfl
theorem tw_415 : (Cond.methodLink RX7 167 yX7_takeInEscape : Cond) ∈ TW := twq2 (List.mem_of_getElem? (i := 112) rfl) rfl
theorem tw_417 : (Cond.instanceMethod yX7_takeInEscape : Cond) ∈ TW := twq2 (List.mem_of_getElem? (i := 114) rfl) rfl
theorem tw_418 : (Cond.code yX7_takeInEscape cX7_takeInEscape 2 none : Cond) ∈ TW := twq2 (List.mem_of_getElem? (i := 115) rfl) rfl
theorem tw_419 : (Cond.methodLink RX7 199 yX5_save : Cond) ∈ TW := twq2 (List.mem_of_getElem? (i := 116) rfl) rfl
theorem tw_420 : (Cond.instanceMethod yX5_save : Cond) ∈ TW := twq2 (List.mem_of_getElem? (i := 117) rfl) rfl
theorem tw_421 : (Cond.selects RX5 yX5_save yX5_save : Cond) ∈ TW := twq2 (List.mem_of_getElem? (i := 118) rfl) rfl
theorem tw_422 : (Cond.code yX5_save cX5_save 1 none : Cond) ∈ TW := twq2 (List.mem_of_getElem? (i := 119) rfl) rfl
theorem tw_423 : (Cond.methodLink RX5 64 yX0_copyFrom : Cond) ∈ TW := twq2 (List.mem_of_getElem? (i := 120) rfl) rfl
theorem tw_424 : (Cond.instanceMethod yX0_copyFrom : Cond) ∈ TW := twq2 (List.mem_of_getElem? (i := 121) rfl) rfl
theorem tw_425 : (Cond.selects RX0 yX0_copyFrom yX0_copyFrom : Cond) ∈ TW := twq2 (List.mem_of_getElem? (i := 122) rfl) rfl
theorem tw_426 : (Cond.code yX0_copyFrom cX0_copyFrom 2 none : Cond) ∈ TW := twq2 (List.mem_of_getElem? (i := 123) rfl) rfl
theorem tw_427 : (Cond.methodLink RX7 202 yX5_restore : Cond) ∈ TW := twq2 (List.mem_of_getElem? (i := 124) rfl) rfl
theorem tw_428 : (Cond.instanceMethod yX5_restore : Cond) ∈ TW := twq2 (List.mem_of_getElem? (i := 125) rfl) rfl
theorem tw_429 : (Cond.selects RX5 yX5_restore yX5_restore : Cond) ∈ TW := twq2 (List.mem_of_getElem? (i := 126) rfl) rfl
theorem tw_430 : (Cond.code yX5_restore cX5_restore 1 none : Cond) ∈ TW := twq2 (List.mem_of_getElem? (i := 127) rfl) rfl
theorem tw_431 : (Cond.methodLink RX7 205 yX5_setTabStop : Cond) ∈ TW := twq2 (List.mem_of_getElem? (i := 128) rfl) rfl
theorem tw_432 : (Cond.instanceMethod yX5_setTabStop : Cond) ∈ TW := twq2 (List.mem_of_getElem? (i := 129) rfl) rfl
theorem tw_433 : (Cond.selects RX5 yX5_setTabStop yX5_setTabStop : Cond) ∈ TW := twq2 (List.mem_of_getElem? (i := 130) rfl) rfl
theorem tw_434 : (Cond.code yX5_setTabStop cX5_setTabStop 1 none : Cond) ∈ TW := twq2 (List.mem_of_getElem? (i := 131) rfl) rfl
theorem tw_435 : (Cond.methodLink RX7 208 yX5_backRow : Cond) ∈ TW := twq2 (List.mem_of_getElem? (i := 132) rfl) rfl
theorem tw_436 : (Cond.instanceMethod yX5_backRow : Cond) ∈ TW := twq2 (List.mem_of_getElem? (i := 133) rfl) rfl
theorem tw_437 : (Cond.selects RX5 yX5_backRow yX5_backRow : Cond) ∈ TW := twq2 (List.mem_of_getElem? (i := 134) rfl) rfl
theorem tw_438 : (Cond.code yX5_backRow cX5_backRow 1 none : Cond) ∈ TW := twq2 (List.mem_of_getElem? (i := 135) rfl) rfl
theorem tw_439 : (Cond.methodLink RX7 170 yX7_takeInTitle : Cond) ∈ TW := twq2 (List.mem_of_getElem? (i := 136) rfl) rfl
theorem tw_441 : (Cond.instanceMethod yX7_takeInTitle : Cond) ∈ TW := twq2 (List.mem_of_getElem? (i := 138) rfl) rfl
theorem tw_442 : (Cond.code yX7_takeInTitle cX7_takeInTitle 2 none : Cond) ∈ TW := twq2 (List.mem_of_getElem? (i := 139) rfl) rfl
theorem tw_443 : (Cond.methodLink RX7 224 yX6_add : Cond) ∈ TW := twq2 (List.mem_of_getElem? (i := 140) rfl) rfl
theorem tw_444 : (Cond.instanceMethod yX6_add : Cond) ∈ TW := twq2 (List.mem_of_getElem? (i := 141) rfl) rfl
theorem tw_445 : (Cond.selects RX6 yX6_add yX6_add : Cond) ∈ TW := twq2 (List.mem_of_getElem? (i := 142) rfl) rfl
theorem tw_446 : (Cond.code yX6_add cX6_add 2 none : Cond) ∈ TW := twq2 (List.mem_of_getElem? (i := 143) rfl) rfl
theorem tw_447 : (Cond.methodLink RX7 225 yX6_copyFrom : Cond) ∈ TW := twq2 (List.mem_of_getElem? (i := 144) rfl) rfl
theorem tw_448 : (Cond.instanceMethod yX6_copyFrom : Cond) ∈ TW := twq2 (List.mem_of_getElem? (i := 145) rfl) rfl
theorem tw_449 : (Cond.selects RX6 yX6_copyFrom yX6_copyFrom : Cond) ∈ TW := twq2 (List.mem_of_getElem? (i := 146) rfl) rfl
theorem tw_450 : (Cond.code yX6_copyFrom cX6_copyFrom 3 none : Cond) ∈ TW := twq2 (List.mem_of_getElem? (i := 147) rfl) rfl
theorem tw_451 : (Cond.methodLink RX7 173 yX7_takeBeforeEnd : Cond) ∈ TW := twq2 (List.mem_of_getElem? (i := 148) rfl) rfl
theorem tw_453 : (Cond.instanceMethod yX7_takeBeforeEnd : Cond) ∈ TW := twq2 (List.mem_of_getElem? (i := 150) rfl) rfl
theorem tw_454 : (Cond.code yX7_takeBeforeEnd cX7_takeBeforeEnd 2 none : Cond) ∈ TW := twq2 (List.mem_of_getElem? (i := 151) rfl) rfl
theorem tw_455 : (Cond.methodLink RX7 211 yX2_addDigit : Cond) ∈ TW := twq2 (List.mem_of_getElem? (i := 152) rfl) rfl
theorem tw_456 : (Cond.instanceMethod yX2_addDigit : Cond) ∈ TW := twq2 (List.mem_of_getElem? (i := 153) rfl) rfl
theorem tw_457 : (Cond.selects RX2 yX2_addDigit yX2_addDigit : Cond) ∈ TW := twq2 (List.mem_of_getElem? (i := 154) rfl) rfl
theorem tw_458 : (Cond.code yX2_addDigit cX2_addDigit 3 none : Cond) ∈ TW := twq2 (List.mem_of_getElem? (i := 155) rfl) rfl
theorem tw_459 : (Cond.methodLink RX2 23 Lib.Math.max.name : Cond) ∈ TW := twq2 (List.mem_of_getElem? (i := 156) rfl) rfl
theorem tw_460 : (Cond.methodLink RX2 29 Lib.Math.min.name : Cond) ∈ TW := twq2 (List.mem_of_getElem? (i := 157) rfl) rfl
theorem tw_461 : (Cond.methodLink RX7 214 yX2_next : Cond) ∈ TW := twq2 (List.mem_of_getElem? (i := 158) rfl) rfl
theorem tw_462 : (Cond.instanceMethod yX2_next : Cond) ∈ TW := twq2 (List.mem_of_getElem? (i := 159) rfl) rfl
theorem tw_463 : (Cond.selects RX2 yX2_next yX2_next : Cond) ∈ TW := twq2 (List.mem_of_getElem? (i := 160) rfl) rfl
theorem tw_464 : (Cond.code yX2_next cX2_next 1 none : Cond) ∈ TW := twq2 (List.mem_of_getElem? (i := 161) rfl) rfl
theorem tw_465 : (Cond.methodLink RX7 217 yX2_isUntouched : Cond) ∈ TW := twq2 (List.mem_of_getElem? (i := 162) rfl) rfl
theorem tw_466 : (Cond.instanceMethod yX2_isUntouched : Cond) ∈ TW := twq2 (List.mem_of_getElem? (i := 163) rfl) rfl
theorem tw_467 : (Cond.selects RX2 yX2_isUntouched yX2_isUntouched : Cond) ∈ TW := twq2 (List.mem_of_getElem? (i := 164) rfl) rfl
theorem tw_468 : (Cond.code yX2_isUntouched cX2_isUntouched 1 (some .boolean) : Cond) ∈ TW := twq2 (List.mem_of_getElem? (i := 165) rfl) rfl
theorem tw_469 : (Cond.methodLink RX7 176 yX7_doSequence : Cond) ∈ TW := twq2 (List.mem_of_getElem? (i := 166) rfl) rfl
theorem tw_471 : (Cond.instanceMethod yX7_doSequence : Cond) ∈ TW := twq2 (List.mem_of_getElem? (i := 168) rfl) rfl
theorem tw_472 : (Cond.code yX7_doSequence cX7_doSequence 5 none : Cond) ∈ TW := twq2 (List.mem_of_getElem? (i := 169) rfl) rfl
theorem tw_473 : (Cond.methodLink RX7 229 yX7_doPrivate : Cond) ∈ TW := twq2 (List.mem_of_getElem? (i := 170) rfl) rfl
theorem tw_475 : (Cond.instanceMethod yX7_doPrivate : Cond) ∈ TW := twq2 (List.mem_of_getElem? (i := 172) rfl) rfl
theorem tw_476 : (Cond.code yX7_doPrivate cX7_doPrivate 3 none : Cond) ∈ TW := twq2 (List.mem_of_getElem? (i := 173) rfl) rfl
theorem tw_477 : (Cond.methodLink RX7 297 yX2_kept : Cond) ∈ TW := twq2 (List.mem_of_getElem? (i := 174) rfl) rfl
theorem tw_478 : (Cond.instanceMethod yX2_kept : Cond) ∈ TW := twq2 (List.mem_of_getElem? (i := 175) rfl) rfl
theorem tw_479 : (Cond.selects RX2 yX2_kept yX2_kept : Cond) ∈ TW := twq2 (List.mem_of_getElem? (i := 176) rfl) rfl
theorem tw_480 : (Cond.code yX2_kept cX2_kept 1 (some .int) : Cond) ∈ TW := twq2 (List.mem_of_getElem? (i := 177) rfl) rfl
theorem tw_481 : (Cond.methodLink RX7 232 yX2_valueAt : Cond) ∈ TW := twq2 (List.mem_of_getElem? (i := 178) rfl) rfl
theorem tw_482 : (Cond.instanceMethod yX2_valueAt : Cond) ∈ TW := twq2 (List.mem_of_getElem? (i := 179) rfl) rfl
theorem tw_483 : (Cond.selects RX2 yX2_valueAt yX2_valueAt : Cond) ∈ TW := twq2 (List.mem_of_getElem? (i := 180) rfl) rfl
theorem tw_484 : (Cond.code yX2_valueAt cX2_valueAt 2 (some .int) : Cond) ∈ TW := twq2 (List.mem_of_getElem? (i := 181) rfl) rfl
theorem tw_485 : (Cond.methodLink RX7 300 yX5_switchPrivate : Cond) ∈ TW := twq2 (List.mem_of_getElem? (i := 182) rfl) rfl
theorem tw_486 : (Cond.instanceMethod yX5_switchPrivate : Cond) ∈ TW := twq2 (List.mem_of_getElem? (i := 183) rfl) rfl
theorem tw_487 : (Cond.selects RX5 yX5_switchPrivate yX5_switchPrivate : Cond) ∈ TW := twq2 (List.mem_of_getElem? (i := 184) rfl) rfl
theorem tw_488 : (Cond.code yX5_switchPrivate cX5_switchPrivate 3 none : Cond) ∈ TW := twq2 (List.mem_of_getElem? (i := 185) rfl) rfl
theorem tw_489 : (Cond.methodLink RX5 146 yX5_moveTo : Cond) ∈ TW := twq2 (List.mem_of_getElem? (i := 186) rfl) rfl
theorem tw_490 : (Cond.instanceMethod yX5_moveTo : Cond) ∈ TW := twq2 (List.mem_of_getElem? (i := 187) rfl) rfl
theorem tw_491 : (Cond.selects RX5 yX5_moveTo yX5_moveTo : Cond) ∈ TW := twq2 (List.mem_of_getElem? (i := 188) rfl) rfl
theorem tw_492 : (Cond.code yX5_moveTo cX5_moveTo 5 none : Cond) ∈ TW := twq2 (List.mem_of_getElem? (i := 189) rfl) rfl
theorem tw_493 : (Cond.methodLink RX5 149 yX5_showPage : Cond) ∈ TW := twq2 (List.mem_of_getElem? (i := 190) rfl) rfl
theorem tw_495 : (Cond.instanceMethod yX5_showPage : Cond) ∈ TW := twq2 (List.mem_of_getElem? (i := 192) rfl) rfl
theorem tw_496 : (Cond.code yX5_showPage cX5_showPage 2 none : Cond) ∈ TW := twq2 (List.mem_of_getElem? (i := 193) rfl) rfl
theorem tw_497 : (Cond.methodLink RX7 235 yX5_moveUp : Cond) ∈ TW := twq2 (List.mem_of_getElem? (i := 194) rfl) rfl
theorem tw_498 : (Cond.instanceMethod yX5_moveUp : Cond) ∈ TW := twq2 (List.mem_of_getElem? (i := 195) rfl) rfl
theorem tw_499 : (Cond.selects RX5 yX5_moveUp yX5_moveUp : Cond) ∈ TW := twq2 (List.mem_of_getElem? (i := 196) rfl) rfl
theorem tw_500 : (Cond.code yX5_moveUp cX5_moveUp 3 none : Cond) ∈ TW := twq2 (List.mem_of_getElem? (i := 197) rfl) rfl
theorem tw_501 : (Cond.methodLink RX7 238 yX5_moveDown : Cond) ∈ TW := twq2 (List.mem_of_getElem? (i := 198) rfl) rfl
theorem tw_502 : (Cond.instanceMethod yX5_moveDown : Cond) ∈ TW := twq2 (List.mem_of_getElem? (i := 199) rfl) rfl
theorem tw_503 : (Cond.selects RX5 yX5_moveDown yX5_moveDown : Cond) ∈ TW := twq2 (List.mem_of_getElem? (i := 200) rfl) rfl
theorem tw_504 : (Cond.code yX5_moveDown cX5_moveDown 3 none : Cond) ∈ TW := twq2 (List.mem_of_getElem? (i := 201) rfl) rfl
theorem tw_505 : (Cond.methodLink RX7 241 yX5_moveRight : Cond) ∈ TW := twq2 (List.mem_of_getElem? (i := 202) rfl) rfl
theorem tw_506 : (Cond.instanceMethod yX5_moveRight : Cond) ∈ TW := twq2 (List.mem_of_getElem? (i := 203) rfl) rfl
theorem tw_507 : (Cond.selects RX5 yX5_moveRight yX5_moveRight : Cond) ∈ TW := twq2 (List.mem_of_getElem? (i := 204) rfl) rfl
theorem tw_508 : (Cond.code yX5_moveRight cX5_moveRight 2 none : Cond) ∈ TW := twq2 (List.mem_of_getElem? (i := 205) rfl) rfl
theorem tw_509 : (Cond.methodLink RX7 244 yX5_moveToRow : Cond) ∈ TW := twq2 (List.mem_of_getElem? (i := 206) rfl) rfl
theorem tw_510 : (Cond.instanceMethod yX5_moveToRow : Cond) ∈ TW := twq2 (List.mem_of_getElem? (i := 207) rfl) rfl
theorem tw_511 : (Cond.selects RX5 yX5_moveToRow yX5_moveToRow : Cond) ∈ TW := twq2 (List.mem_of_getElem? (i := 208) rfl) rfl
theorem tw_512 : (Cond.code yX5_moveToRow cX5_moveToRow 2 none : Cond) ∈ TW := twq2 (List.mem_of_getElem? (i := 209) rfl) rfl
theorem tw_513 : (Cond.methodLink RX7 247 yX5_moveTo : Cond) ∈ TW := twq2 (List.mem_of_getElem? (i := 210) rfl) rfl
theorem tw_514 : (Cond.methodLink RX7 251 yX5_clearInPage : Cond) ∈ TW := twq2 (List.mem_of_getElem? (i := 211) rfl) rfl
theorem tw_515 : (Cond.instanceMethod yX5_clearInPage : Cond) ∈ TW := twq2 (List.mem_of_getElem? (i := 212) rfl) rfl
theorem tw_516 : (Cond.selects RX5 yX5_clearInPage yX5_clearInPage : Cond) ∈ TW := twq2 (List.mem_of_getElem? (i := 213) rfl) rfl
theorem tw_517 : (Cond.code yX5_clearInPage cX5_clearInPage 2 none : Cond) ∈ TW := twq2 (List.mem_of_getElem? (i := 214) rfl) rfl
theorem tw_518 : (Cond.methodLink RX5 127 yX5_clearWithin : Cond) ∈ TW := twq2 (List.mem_of_getElem? (i := 215) rfl) rfl
theorem tw_520 : (Cond.instanceMethod yX5_clearWithin : Cond) ∈ TW := twq2 (List.mem_of_getElem? (i := 217) rfl) rfl
theorem tw_521 : (Cond.code yX5_clearWithin cX5_clearWithin 4 none : Cond) ∈ TW := twq2 (List.mem_of_getElem? (i := 218) rfl) rfl
theorem tw_522 : (Cond.methodLink RX7 254 yX5_clearInRow : Cond) ∈ TW := twq2 (List.mem_of_getElem? (i := 219) rfl) rfl
theorem tw_523 : (Cond.instanceMethod yX5_clearInRow : Cond) ∈ TW := twq2 (List.mem_of_getElem? (i := 220) rfl) rfl
theorem tw_524 : (Cond.selects RX5 yX5_clearInRow yX5_clearInRow : Cond) ∈ TW := twq2 (List.mem_of_getElem? (i := 221) rfl) rfl
theorem tw_525 : (Cond.code yX5_clearInRow cX5_clearInRow 2 none : Cond) ∈ TW := twq2 (List.mem_of_getElem? (i := 222) rfl) rfl
theorem tw_526 : (Cond.methodLink RX7 257 yX5_clearCells : Cond) ∈ TW := twq2 (List.mem_of_getElem? (i := 223) rfl) rfl
theorem tw_527 : (Cond.instanceMethod yX5_clearCells : Cond) ∈ TW := twq2 (List.mem_of_getElem? (i := 224) rfl) rfl
theorem tw_528 : (Cond.selects RX5 yX5_clearCells yX5_clearCells : Cond) ∈ TW := twq2 (List.mem_of_getElem? (i := 225) rfl) rfl
theorem tw_529 : (Cond.code yX5_clearCells cX5_clearCells 2 none : Cond) ∈ TW := twq2 (List.mem_of_getElem? (i := 226) rfl) rfl
theorem tw_530 : (Cond.methodLink RX7 260 yX5_putInCells : Cond) ∈ TW := twq2 (List.mem_of_getElem? (i := 227) rfl) rfl
theorem tw_531 : (Cond.instanceMethod yX5_putInCells : Cond) ∈ TW := twq2 (List.mem_of_getElem? (i := 228) rfl) rfl
theorem tw_532 : (Cond.selects RX5 yX5_putInCells yX5_putInCells : Cond) ∈ TW := twq2 (List.mem_of_getElem? (i := 229) rfl) rfl
theorem tw_533 : (Cond.code yX5_putInCells cX5_putInCells 2 none : Cond) ∈ TW := twq2 (List.mem_of_getElem? (i := 230) rfl) rfl
theorem tw_534 : (Cond.methodLink RX7 263 yX5_takeOutCells : Cond) ∈ TW := twq2 (List.mem_of_getElem? (i := 231) rfl) rfl
theorem tw_535 : (Cond.instanceMethod yX5_takeOutCells : Cond) ∈ TW := twq2 (List.mem_of_getElem? (i := 232) rfl) rfl
theorem tw_536 : (Cond.selects RX5 yX5_takeOutCells yX5_takeOutCells : Cond) ∈ TW := twq2 (List.mem_of_getElem? (i := 233) rfl) rfl
theorem tw_537 : (Cond.code yX5_takeOutCells cX5_takeOutCells 2 none : Cond) ∈ TW := twq2 (List.mem_of_getElem? (i := 234) rfl) rfl
theorem tw_538 : (Cond.methodLink RX7 266 yX5_putInRows : Cond) ∈ TW := twq2 (List.mem_of_getElem? (i := 235) rfl) rfl
theorem tw_539 : (Cond.instanceMethod yX5_putInRows : Cond) ∈ TW := twq2 (List.mem_of_getElem? (i := 236) rfl) rfl
theorem tw_540 : (Cond.selects RX5 yX5_putInRows yX5_putInRows : Cond) ∈ TW := twq2 (List.mem_of_getElem? (i := 237) rfl) rfl
theorem tw_541 : (Cond.code yX5_putInRows cX5_putInRows 2 none : Cond) ∈ TW := twq2 (List.mem_of_getElem? (i := 238) rfl) rfl
theorem tw_542 : (Cond.methodLink RX5 120 yX5_isInRegion : Cond) ∈ TW := twq2 (List.mem_of_getElem? (i := 239) rfl) rfl
theorem tw_544 : (Cond.instanceMethod yX5_isInRegion : Cond) ∈ TW := twq3 (List.mem_of_getElem? (i := 1) rfl) rfl
theorem tw_545 : (Cond.code yX5_isInRegion cX5_isInRegion 1 (some .boolean) : Cond) ∈ TW := twq3 (List.mem_of_getElem? (i := 2) rfl) rfl
theorem tw_546 : (Cond.methodLink RX7 269 yX5_takeOutRows : Cond) ∈ TW := twq3 (List.mem_of_getElem? (i := 3) rfl) rfl
theorem tw_547 : (Cond.instanceMethod yX5_takeOutRows : Cond) ∈ TW := twq3 (List.mem_of_getElem? (i := 4) rfl) rfl
theorem tw_548 : (Cond.selects RX5 yX5_takeOutRows yX5_takeOutRows : Cond) ∈ TW := twq3 (List.mem_of_getElem? (i := 5) rfl) rfl
theorem tw_549 : (Cond.code yX5_takeOutRows cX5_takeOutRows 2 none : Cond) ∈ TW := twq3 (List.mem_of_getElem? (i := 6) rfl) rfl
theorem tw_550 : (Cond.methodLink RX7 272 yX5_scrollUp : Cond) ∈ TW := twq3 (List.mem_of_getElem? (i := 7) rfl) rfl
theorem tw_551 : (Cond.instanceMethod yX5_scrollUp : Cond) ∈ TW := twq3 (List.mem_of_getElem? (i := 8) rfl) rfl
theorem tw_552 : (Cond.selects RX5 yX5_scrollUp yX5_scrollUp : Cond) ∈ TW := twq3 (List.mem_of_getElem? (i := 9) rfl) rfl
theorem tw_553 : (Cond.code yX5_scrollUp cX5_scrollUp 2 none : Cond) ∈ TW := twq3 (List.mem_of_getElem? (i := 10) rfl) rfl
theorem tw_554 : (Cond.methodLink RX7 275 yX5_scrollDown : Cond) ∈ TW := twq3 (List.mem_of_getElem? (i := 11) rfl) rfl
theorem tw_555 : (Cond.instanceMethod yX5_scrollDown : Cond) ∈ TW := twq3 (List.mem_of_getElem? (i := 12) rfl) rfl
theorem tw_556 : (Cond.selects RX5 yX5_scrollDown yX5_scrollDown : Cond) ∈ TW := twq3 (List.mem_of_getElem? (i := 13) rfl) rfl
theorem tw_557 : (Cond.code yX5_scrollDown cX5_scrollDown 2 none : Cond) ∈ TW := twq3 (List.mem_of_getElem? (i := 14) rfl) rfl
theorem tw_558 : (Cond.methodLink RX7 278 yX5_repeat : Cond) ∈ TW := twq3 (List.mem_of_getElem? (i := 15) rfl) rfl
theorem tw_559 : (Cond.instanceMethod yX5_repeat : Cond) ∈ TW := twq3 (List.mem_of_getElem? (i := 16) rfl) rfl
theorem tw_560 : (Cond.selects RX5 yX5_repeat yX5_repeat : Cond) ∈ TW := twq3 (List.mem_of_getElem? (i := 17) rfl) rfl
theorem tw_561 : (Cond.code yX5_repeat cX5_repeat 4 none : Cond) ∈ TW := twq3 (List.mem_of_getElem? (i := 18) rfl) rfl
theorem tw_562 : (Cond.methodLink RX5 104 yX5_print : Cond) ∈ TW := twq3 (List.mem_of_getElem? (i := 19) rfl) rfl
theorem tw_563 : (Cond.methodLink RX7 281 yX7_paintAll : Cond) ∈ TW := twq3 (List.mem_of_getElem? (i := 20) rfl) rfl
theorem tw_565 : (Cond.instanceMethod yX7_paintAll : Cond) ∈ TW := twq3 (List.mem_of_getElem? (i := 22) rfl) rfl
theorem tw_566 : (Cond.code yX7_paintAll cX7_paintAll 3 none : Cond) ∈ TW := twq3 (List.mem_of_getElem? (i := 23) rfl) rfl
theorem tw_567 : (Cond.methodLink RX7 304 Lib.Math.max.name : Cond) ∈ TW := twq3 (List.mem_of_getElem? (i := 24) rfl) rfl
theorem tw_568 : (Cond.methodLink RX7 309 yX0_paint : Cond) ∈ TW := twq3 (List.mem_of_getElem? (i := 25) rfl) rfl
theorem tw_569 : (Cond.instanceMethod yX0_paint : Cond) ∈ TW := twq3 (List.mem_of_getElem? (i := 26) rfl) rfl
theorem tw_570 : (Cond.selects RX0 yX0_paint yX0_paint : Cond) ∈ TW := twq3 (List.mem_of_getElem? (i := 27) rfl) rfl
theorem tw_571 : (Cond.code yX0_paint cX0_paint 2 none : Cond) ∈ TW := twq3 (List.mem_of_getElem? (i := 28) rfl) rfl
theorem tw_572 : (Cond.methodLink RX0 32 yX0_setColour : Cond) ∈ TW := twq3 (List.mem_of_getElem? (i := 29) rfl) rfl
theorem tw_574 : (Cond.instanceMethod yX0_setColour : Cond) ∈ TW := twq3 (List.mem_of_getElem? (i := 31) rfl) rfl
theorem tw_575 : (Cond.code yX0_setColour cX0_setColour 2 none : Cond) ∈ TW := twq3 (List.mem_of_getElem? (i := 32) rfl) rfl
theorem tw_576 : (Cond.methodLink RX0 36 yX0_setGround : Cond) ∈ TW := twq3 (List.mem_of_getElem? (i := 33) rfl) rfl
theorem tw_578 : (Cond.instanceMethod yX0_setGround : Cond) ∈ TW := twq3 (List.mem_of_getElem? (i := 35) rfl) rfl
theorem tw_579 : (Cond.code yX0_setGround cX0_setGround 2 none : Cond) ∈ TW := twq3 (List.mem_of_getElem? (i := 36) rfl) rfl
theorem tw_580 : (Cond.methodLink RX0 39 yX0_paintColour : Cond) ∈ TW := twq3 (List.mem_of_getElem? (i := 37) rfl) rfl
theorem tw_582 : (Cond.instanceMethod yX0_paintColour : Cond) ∈ TW := twq3 (List.mem_of_getElem? (i := 39) rfl) rfl
theorem tw_583 : (Cond.code yX0_paintColour cX0_paintColour 2 none : Cond) ∈ TW := twq3 (List.mem_of_getElem? (i := 40) rfl) rfl
theorem tw_584 : (Cond.methodLink RX7 284 yX5_setRegion : Cond) ∈ TW := twq3 (List.mem_of_getElem? (i := 41) rfl) rfl
theorem tw_585 : (Cond.instanceMethod yX5_setRegion : Cond) ∈ TW := twq3 (List.mem_of_getElem? (i := 42) rfl) rfl
theorem tw_586 : (Cond.selects RX5 yX5_setRegion yX5_setRegion : Cond) ∈ TW := twq3 (List.mem_of_getElem? (i := 43) rfl) rfl
theorem tw_587 : (Cond.code yX5_setRegion cX5_setRegion 3 none : Cond) ∈ TW := twq3 (List.mem_of_getElem? (i := 44) rfl) rfl
theorem tw_588 : (Cond.methodLink RX7 287 yX5_removeTabStops : Cond) ∈ TW := twq3 (List.mem_of_getElem? (i := 45) rfl) rfl
theorem tw_589 : (Cond.instanceMethod yX5_removeTabStops : Cond) ∈ TW := twq3 (List.mem_of_getElem? (i := 46) rfl) rfl
theorem tw_590 : (Cond.selects RX5 yX5_removeTabStops yX5_removeTabStops : Cond) ∈ TW := twq3 (List.mem_of_getElem? (i := 47) rfl) rfl
theorem tw_591 : (Cond.code yX5_removeTabStops cX5_removeTabStops 2 none : Cond) ∈ TW := twq3 (List.mem_of_getElem? (i := 48) rfl) rfl
theorem tw_592 : (Cond.methodLink RX7 290 yX7_switchInsert : Cond) ∈ TW := twq3 (List.mem_of_getElem? (i := 49) rfl) rfl
theorem tw_594 : (Cond.instanceMethod yX7_switchInsert : Cond) ∈ TW := twq3 (List.mem_of_getElem? (i := 51) rfl) rfl
theorem tw_595 : (Cond.code yX7_switchInsert cX7_switchInsert 3 none : Cond) ∈ TW := twq3 (List.mem_of_getElem? (i := 52) rfl) rfl
theorem tw_596 : (Cond.methodLink RX7 294 yX7_answer : Cond) ∈ TW := twq3 (List.mem_of_getElem? (i := 53) rfl) rfl
theorem tw_598 : (Cond.instanceMethod yX7_answer : Cond) ∈ TW := twq3 (List.mem_of_getElem? (i := 55) rfl) rfl
theorem tw_599 : (Cond.code yX7_answer cX7_answer 2 none : Cond) ∈ TW := twq3 (List.mem_of_getElem? (i := 56) rfl) rfl
theorem tw_600 : (Cond.methodLink RX7 312 yX4_addWell : Cond) ∈ TW := twq3 (List.mem_of_getElem? (i := 57) rfl) rfl
theorem tw_601 : (Cond.instanceMethod yX4_addWell : Cond) ∈ TW := twq3 (List.mem_of_getElem? (i := 58) rfl) rfl
theorem tw_602 : (Cond.selects RX4 yX4_addWell yX4_addWell : Cond) ∈ TW := twq3 (List.mem_of_getElem? (i := 59) rfl) rfl
theorem tw_603 : (Cond.code yX4_addWell cX4_addWell 1 none : Cond) ∈ TW := twq3 (List.mem_of_getElem? (i := 60) rfl) rfl
theorem tw_604 : (Cond.methodLink RX4 19 yX4_hasRoom : Cond) ∈ TW := twq3 (List.mem_of_getElem? (i := 61) rfl) rfl
theorem tw_606 : (Cond.instanceMethod yX4_hasRoom : Cond) ∈ TW := twq3 (List.mem_of_getElem? (i := 63) rfl) rfl
theorem tw_607 : (Cond.code yX4_hasRoom cX4_hasRoom 2 (some .boolean) : Cond) ∈ TW := twq3 (List.mem_of_getElem? (i := 64) rfl) rfl
theorem tw_608 : (Cond.methodLink RX4 23 yX4_add : Cond) ∈ TW := twq3 (List.mem_of_getElem? (i := 65) rfl) rfl
theorem tw_610 : (Cond.instanceMethod yX4_add : Cond) ∈ TW := twq3 (List.mem_of_getElem? (i := 67) rfl) rfl
theorem tw_611 : (Cond.code yX4_add cX4_add 2 none : Cond) ∈ TW := twq3 (List.mem_of_getElem? (i := 68) rfl) rfl
theorem tw_612 : (Cond.methodLink RX7 315 yX5_rowToTell : Cond) ∈ TW := twq3 (List.mem_of_getElem? (i := 69) rfl) rfl
theorem tw_613 : (Cond.instanceMethod yX5_rowToTell : Cond) ∈ TW := twq3 (List.mem_of_getElem? (i := 70) rfl) rfl
theorem tw_614 : (Cond.selects RX5 yX5_rowToTell yX5_rowToTell : Cond) ∈ TW := twq3 (List.mem_of_getElem? (i := 71) rfl) rfl
theorem tw_615 : (Cond.code yX5_rowToTell cX5_rowToTell 1 (some .int) : Cond) ∈ TW := twq3 (List.mem_of_getElem? (i := 72) rfl) rfl
theorem tw_616 : (Cond.methodLink RX7 318 yX4_addPosition : Cond) ∈ TW := twq3 (List.mem_of_getElem? (i := 73) rfl) rfl
theorem tw_617 : (Cond.instanceMethod yX4_addPosition : Cond) ∈ TW := twq3 (List.mem_of_getElem? (i := 74) rfl) rfl
theorem tw_618 : (Cond.selects RX4 yX4_addPosition yX4_addPosition : Cond) ∈ TW := twq3 (List.mem_of_getElem? (i := 75) rfl) rfl
theorem tw_619 : (Cond.code yX4_addPosition cX4_addPosition 4 none : Cond) ∈ TW := twq3 (List.mem_of_getElem? (i := 76) rfl) rfl
theorem tw_620 : (Cond.methodLink RL 35 yX7_feedAll : Cond) ∈ TW := twq3 (List.mem_of_getElem? (i := 77) rfl) rfl
theorem tw_621 : (Cond.instanceMethod yX7_feedAll : Cond) ∈ TW := twq3 (List.mem_of_getElem? (i := 78) rfl) rfl
theorem tw_622 : (Cond.selects RX7 yX7_feedAll yX7_feedAll : Cond) ∈ TW := twq3 (List.mem_of_getElem? (i := 79) rfl) rfl
theorem tw_623 : (Cond.code yX7_feedAll cX7_feedAll 6 (some .int) : Cond) ∈ TW := twq3 (List.mem_of_getElem? (i := 80) rfl) rfl
theorem tw_624 : (Cond.methodLink RL 40 yX7_row : Cond) ∈ TW := twq3 (List.mem_of_getElem? (i := 81) rfl) rfl
theorem tw_625 : (Cond.instanceMethod yX7_row : Cond) ∈ TW := twq3 (List.mem_of_getElem? (i := 82) rfl) rfl
theorem tw_626 : (Cond.selects RX7 yX7_row yX7_row : Cond) ∈ TW := twq3 (List.mem_of_getElem? (i := 83) rfl) rfl
theorem tw_627 : (Cond.code yX7_row cX7_row 1 (some .int) : Cond) ∈ TW := twq3 (List.mem_of_getElem? (i := 84) rfl) rfl
theorem tw_628 : (Cond.methodLink RL 44 yX7_column : Cond) ∈ TW := twq3 (List.mem_of_getElem? (i := 85) rfl) rfl
theorem tw_629 : (Cond.instanceMethod yX7_column : Cond) ∈ TW := twq3 (List.mem_of_getElem? (i := 86) rfl) rfl
theorem tw_630 : (Cond.selects RX7 yX7_column yX7_column : Cond) ∈ TW := twq3 (List.mem_of_getElem? (i := 87) rfl) rfl
theorem tw_631 : (Cond.code yX7_column cX7_column 1 (some .int) : Cond) ∈ TW := twq3 (List.mem_of_getElem? (i := 88) rfl) rfl
theorem tw_632 : (Cond.methodLink RL 48 yX7_full : Cond) ∈ TW := twq3 (List.mem_of_getElem? (i := 89) rfl) rfl
theorem tw_633 : (Cond.instanceMethod yX7_full : Cond) ∈ TW := twq3 (List.mem_of_getElem? (i := 90) rfl) rfl
theorem tw_634 : (Cond.selects RX7 yX7_full yX7_full : Cond) ∈ TW := twq3 (List.mem_of_getElem? (i := 91) rfl) rfl
theorem tw_635 : (Cond.code yX7_full cX7_full 1 (some .boolean) : Cond) ∈ TW := twq3 (List.mem_of_getElem? (i := 92) rfl) rfl
theorem tw_636 : (Cond.methodLink RL 53 yX7_pen : Cond) ∈ TW := twq3 (List.mem_of_getElem? (i := 93) rfl) rfl
theorem tw_637 : (Cond.instanceMethod yX7_pen : Cond) ∈ TW := twq3 (List.mem_of_getElem? (i := 94) rfl) rfl
theorem tw_638 : (Cond.selects RX7 yX7_pen yX7_pen : Cond) ∈ TW := twq3 (List.mem_of_getElem? (i := 95) rfl) rfl
theorem tw_639 : (Cond.code yX7_pen cX7_pen 1 (some .int) : Cond) ∈ TW := twq3 (List.mem_of_getElem? (i := 96) rfl) rfl
theorem tw_640 : (Cond.methodLink RL 57 yX7_mode : Cond) ∈ TW := twq3 (List.mem_of_getElem? (i := 97) rfl) rfl
theorem tw_641 : (Cond.instanceMethod yX7_mode : Cond) ∈ TW := twq3 (List.mem_of_getElem? (i := 98) rfl) rfl
theorem tw_642 : (Cond.selects RX7 yX7_mode yX7_mode : Cond) ∈ TW := twq3 (List.mem_of_getElem? (i := 99) rfl) rfl
theorem tw_643 : (Cond.code yX7_mode cX7_mode 2 (some .int) : Cond) ∈ TW := twq3 (List.mem_of_getElem? (i := 100) rfl) rfl
theorem tw_644 : (Cond.methodLink RL 62 yX7_region : Cond) ∈ TW := twq3 (List.mem_of_getElem? (i := 101) rfl) rfl
theorem tw_645 : (Cond.instanceMethod yX7_region : Cond) ∈ TW := twq3 (List.mem_of_getElem? (i := 102) rfl) rfl
theorem tw_646 : (Cond.selects RX7 yX7_region yX7_region : Cond) ∈ TW := twq3 (List.mem_of_getElem? (i := 103) rfl) rfl
theorem tw_647 : (Cond.code yX7_region cX7_region 1 (some .int) : Cond) ∈ TW := twq3 (List.mem_of_getElem? (i := 104) rfl) rfl
theorem tw_648 : (Cond.methodLink RL 66 yX7_tab : Cond) ∈ TW := twq3 (List.mem_of_getElem? (i := 105) rfl) rfl
theorem tw_649 : (Cond.instanceMethod yX7_tab : Cond) ∈ TW := twq3 (List.mem_of_getElem? (i := 106) rfl) rfl
theorem tw_650 : (Cond.selects RX7 yX7_tab yX7_tab : Cond) ∈ TW := twq3 (List.mem_of_getElem? (i := 107) rfl) rfl
theorem tw_651 : (Cond.code yX7_tab cX7_tab 2 (some .boolean) : Cond) ∈ TW := twq3 (List.mem_of_getElem? (i := 108) rfl) rfl
theorem tw_652 : (Cond.methodLink RX7 95 yX5_hasTabStop : Cond) ∈ TW := twq3 (List.mem_of_getElem? (i := 109) rfl) rfl
theorem tw_653 : (Cond.methodLink RL 70 yX7_bells : Cond) ∈ TW := twq3 (List.mem_of_getElem? (i := 110) rfl) rfl
theorem tw_654 : (Cond.instanceMethod yX7_bells : Cond) ∈ TW := twq3 (List.mem_of_getElem? (i := 111) rfl) rfl
theorem tw_655 : (Cond.selects RX7 yX7_bells yX7_bells : Cond) ∈ TW := twq3 (List.mem_of_getElem? (i := 112) rfl) rfl
theorem tw_656 : (Cond.code yX7_bells cX7_bells 1 (some .int) : Cond) ∈ TW := twq3 (List.mem_of_getElem? (i := 113) rfl) rfl
theorem tw_657 : (Cond.methodLink RL 74 yX7_state : Cond) ∈ TW := twq3 (List.mem_of_getElem? (i := 114) rfl) rfl
theorem tw_658 : (Cond.instanceMethod yX7_state : Cond) ∈ TW := twq3 (List.mem_of_getElem? (i := 115) rfl) rfl
theorem tw_659 : (Cond.selects RX7 yX7_state yX7_state : Cond) ∈ TW := twq3 (List.mem_of_getElem? (i := 116) rfl) rfl
theorem tw_660 : (Cond.code yX7_state cX7_state 1 (some .int) : Cond) ∈ TW := twq3 (List.mem_of_getElem? (i := 117) rfl) rfl
theorem tw_661 : (Cond.methodLink RL 90 yX7_cells : Cond) ∈ TW := twq3 (List.mem_of_getElem? (i := 118) rfl) rfl
theorem tw_662 : (Cond.instanceMethod yX7_cells : Cond) ∈ TW := twq3 (List.mem_of_getElem? (i := 119) rfl) rfl
theorem tw_663 : (Cond.selects RX7 yX7_cells yX7_cells : Cond) ∈ TW := twq3 (List.mem_of_getElem? (i := 120) rfl) rfl
theorem tw_664 : (Cond.code yX7_cells cX7_cells 3 (some .int) : Cond) ∈ TW := twq3 (List.mem_of_getElem? (i := 121) rfl) rfl
theorem tw_665 : (Cond.methodLink RX7 109 yX5_page : Cond) ∈ TW := twq3 (List.mem_of_getElem? (i := 122) rfl) rfl
theorem tw_666 : (Cond.methodLink RX7 122 yX3_count : Cond) ∈ TW := twq3 (List.mem_of_getElem? (i := 123) rfl) rfl
theorem tw_667 : (Cond.instanceMethod yX3_count : Cond) ∈ TW := twq3 (List.mem_of_getElem? (i := 124) rfl) rfl
theorem tw_668 : (Cond.selects RX3 yX3_count yX3_count : Cond) ∈ TW := twq3 (List.mem_of_getElem? (i := 125) rfl) rfl
theorem tw_669 : (Cond.code yX3_count cX3_count 5 (some .int) : Cond) ∈ TW := twq3 (List.mem_of_getElem? (i := 126) rfl) rfl
theorem tw_670 : (Cond.methodLink RL 94 yX7_waiting : Cond) ∈ TW := twq3 (List.mem_of_getElem? (i := 127) rfl) rfl
theorem tw_671 : (Cond.instanceMethod yX7_waiting : Cond) ∈ TW := twq3 (List.mem_of_getElem? (i := 128) rfl) rfl
theorem tw_672 : (Cond.selects RX7 yX7_waiting yX7_waiting : Cond) ∈ TW := twq3 (List.mem_of_getElem? (i := 129) rfl) rfl
theorem tw_673 : (Cond.code yX7_waiting cX7_waiting 1 (some .int) : Cond) ∈ TW := twq3 (List.mem_of_getElem? (i := 130) rfl) rfl
theorem tw_674 : (Cond.methodLink RL 102 yX7_title : Cond) ∈ TW := twq3 (List.mem_of_getElem? (i := 131) rfl) rfl
theorem tw_675 : (Cond.instanceMethod yX7_title : Cond) ∈ TW := twq3 (List.mem_of_getElem? (i := 132) rfl) rfl
theorem tw_676 : (Cond.selects RX7 yX7_title yX7_title : Cond) ∈ TW := twq3 (List.mem_of_getElem? (i := 133) rfl) rfl
theorem tw_677 : (Cond.code yX7_title cX7_title 2 (some .int) : Cond) ∈ TW := twq3 (List.mem_of_getElem? (i := 134) rfl) rfl
theorem tw_678 : (Cond.methodLink RX7 136 yX6_characterAt : Cond) ∈ TW := twq3 (List.mem_of_getElem? (i := 135) rfl) rfl
theorem tw_679 : (Cond.instanceMethod yX6_characterAt : Cond) ∈ TW := twq3 (List.mem_of_getElem? (i := 136) rfl) rfl
theorem tw_680 : (Cond.selects RX6 yX6_characterAt yX6_characterAt : Cond) ∈ TW := twq3 (List.mem_of_getElem? (i := 137) rfl) rfl
theorem tw_681 : (Cond.code yX6_characterAt cX6_characterAt 2 (some .int) : Cond) ∈ TW := twq3 (List.mem_of_getElem? (i := 138) rfl) rfl
theorem tw_682 : (Cond.methodLink RL 78 yL_code : Cond) ∈ TW := twq3 (List.mem_of_getElem? (i := 139) rfl) rfl
theorem tw_683 : (Cond.static yL_code : Cond) ∈ TW := twq3 (List.mem_of_getElem? (i := 140) rfl) rfl
theorem tw_684 : (Cond.codeWith yL_code cL_code 5 (some .int) [(0, 10, 13, 13)] : Cond) ∈ TW := twq3 (List.mem_of_getElem? (i := 141) rfl) rfl
theorem tw_685 : (Cond.classLink RL 13 "java/lang/IndexOutOfBoundsException" : Cond) ∈ TW := twq3 (List.mem_of_getElem? (i := 142) rfl) rfl
theorem tw_686 : (Cond.methodLink RL 7 yX7_code : Cond) ∈ TW := twq3 (List.mem_of_getElem? (i := 143) rfl) rfl
theorem tw_687 : (Cond.instanceMethod yX7_code : Cond) ∈ TW := twq3 (List.mem_of_getElem? (i := 144) rfl) rfl
theorem tw_688 : (Cond.selects RX7 yX7_code yX7_code : Cond) ∈ TW := twq3 (List.mem_of_getElem? (i := 145) rfl) rfl
theorem tw_689 : (Cond.code yX7_code cX7_code 3 (some .int) : Cond) ∈ TW := twq3 (List.mem_of_getElem? (i := 146) rfl) rfl
theorem tw_690 : (Cond.methodLink RX7 102 yX7_isCell : Cond) ∈ TW := twq3 (List.mem_of_getElem? (i := 147) rfl) rfl
theorem tw_691 : (Cond.static yX7_isCell : Cond) ∈ TW := twq3 (List.mem_of_getElem? (i := 148) rfl) rfl
theorem tw_692 : (Cond.code yX7_isCell cX7_isCell 2 (some .boolean) : Cond) ∈ TW := twq3 (List.mem_of_getElem? (i := 149) rfl) rfl
theorem tw_693 : (Cond.classLink RX7 106 "java/lang/IndexOutOfBoundsException" : Cond) ∈ TW := twq3 (List.mem_of_getElem? (i := 150) rfl) rfl
theorem tw_694 : (Cond.instantiable "java/lang/IndexOutOfBoundsException" 6 : Cond) ∈ TW := twq3 (List.mem_of_getElem? (i := 151) rfl) rfl
theorem tw_718 : (Cond.methodLink "java/lang/Throwable" 1 objectInit : Cond) ∈ TW := twq3 (List.mem_of_getElem? (i := 175) rfl) rfl
theorem tw_731 : (Cond.instantiable "java/lang/Throwable" 6 : Cond) ∈ TW := twq3 (List.mem_of_getElem? (i := 188) rfl) rfl
theorem tw_755 : (Cond.methodLink RL 87 yL_look : Cond) ∈ TW := twq3 (List.mem_of_getElem? (i := 212) rfl) rfl
theorem tw_756 : (Cond.static yL_look : Cond) ∈ TW := twq3 (List.mem_of_getElem? (i := 213) rfl) rfl
theorem tw_757 : (Cond.codeWith yL_look cL_look 5 (some .int) [(0, 10, 13, 13)] : Cond) ∈ TW := twq3 (List.mem_of_getElem? (i := 214) rfl) rfl
theorem tw_758 : (Cond.methodLink RL 15 yX7_look : Cond) ∈ TW := twq3 (List.mem_of_getElem? (i := 215) rfl) rfl
theorem tw_759 : (Cond.instanceMethod yX7_look : Cond) ∈ TW := twq3 (List.mem_of_getElem? (i := 216) rfl) rfl
theorem tw_760 : (Cond.selects RX7 yX7_look yX7_look : Cond) ∈ TW := twq3 (List.mem_of_getElem? (i := 217) rfl) rfl
theorem tw_761 : (Cond.code yX7_look cX7_look 3 (some .int) : Cond) ∈ TW := twq3 (List.mem_of_getElem? (i := 218) rfl) rfl
theorem tw_762 : (Cond.methodLink RL 98 yL_reply : Cond) ∈ TW := twq3 (List.mem_of_getElem? (i := 219) rfl) rfl
theorem tw_763 : (Cond.static yL_reply : Cond) ∈ TW := twq3 (List.mem_of_getElem? (i := 220) rfl) rfl
theorem tw_764 : (Cond.codeWith yL_reply cL_reply 3 (some .int) [(0, 8, 11, 22)] : Cond) ∈ TW := twq3 (List.mem_of_getElem? (i := 221) rfl) rfl
theorem tw_765 : (Cond.classLink RL 22 "java/util/NoSuchElementException" : Cond) ∈ TW := twq3 (List.mem_of_getElem? (i := 222) rfl) rfl
theorem tw_766 : (Cond.methodLink RL 18 yX7_reply : Cond) ∈ TW := twq3 (List.mem_of_getElem? (i := 223) rfl) rfl
theorem tw_767 : (Cond.instanceMethod yX7_reply : Cond) ∈ TW := twq3 (List.mem_of_getElem? (i := 224) rfl) rfl
theorem tw_768 : (Cond.selects RX7 yX7_reply yX7_reply : Cond) ∈ TW := twq3 (List.mem_of_getElem? (i := 225) rfl) rfl
theorem tw_769 : (Cond.code yX7_reply cX7_reply 1 (some .int) : Cond) ∈ TW := twq3 (List.mem_of_getElem? (i := 226) rfl) rfl
theorem tw_770 : (Cond.classLink RX7 129 "java/util/NoSuchElementException" : Cond) ∈ TW := twq3 (List.mem_of_getElem? (i := 227) rfl) rfl
theorem tw_771 : (Cond.instantiable "java/util/NoSuchElementException" 6 : Cond) ∈ TW := twq3 (List.mem_of_getElem? (i := 228) rfl) rfl
theorem tw_785 : (Cond.methodLink RX7 132 yX4_takeFirst : Cond) ∈ TW := twq4 (List.mem_of_getElem? (i := 2) rfl) rfl
theorem tw_786 : (Cond.instanceMethod yX4_takeFirst : Cond) ∈ TW := twq4 (List.mem_of_getElem? (i := 3) rfl) rfl
theorem tw_787 : (Cond.selects RX4 yX4_takeFirst yX4_takeFirst : Cond) ∈ TW := twq4 (List.mem_of_getElem? (i := 4) rfl) rfl
theorem tw_788 : (Cond.code yX4_takeFirst cX4_takeFirst 3 (some .int) : Cond) ∈ TW := twq4 (List.mem_of_getElem? (i := 5) rfl) rfl
theorem tw_789 : (Cond.classLink RL 25 RX8 : Cond) ∈ TW := twq4 (List.mem_of_getElem? (i := 6) rfl) rfl
theorem tw_790 : (Cond.instantiable RX8 40 : Cond) ∈ TW := twq4 (List.mem_of_getElem? (i := 7) rfl) rfl
theorem tw_791 : (Cond.methodLink RL 27 yX8_init : Cond) ∈ TW := twq4 (List.mem_of_getElem? (i := 8) rfl) rfl
theorem tw_792 : (Cond.instanceMethod yX8_init : Cond) ∈ TW := twq4 (List.mem_of_getElem? (i := 9) rfl) rfl
theorem tw_793 : (Cond.code yX8_init cX8_init 1 none : Cond) ∈ TW := twq4 (List.mem_of_getElem? (i := 10) rfl) rfl
theorem tw_794 : (Cond.methodLink RX8 1 objectInit : Cond) ∈ TW := twq4 (List.mem_of_getElem? (i := 11) rfl) rfl
theorem tw_795 : (Cond.methodLink RX8 38 yX8_first : Cond) ∈ TW := twq4 (List.mem_of_getElem? (i := 12) rfl) rfl
theorem tw_797 : (Cond.instanceMethod yX8_first : Cond) ∈ TW := twq4 (List.mem_of_getElem? (i := 14) rfl) rfl
theorem tw_798 : (Cond.code yX8_first cX8_first 2 none : Cond) ∈ TW := twq4 (List.mem_of_getElem? (i := 15) rfl) rfl
theorem tw_799 : (Cond.methodLink RX8 45 yX8_blank : Cond) ∈ TW := twq4 (List.mem_of_getElem? (i := 16) rfl) rfl
theorem tw_801 : (Cond.instanceMethod yX8_blank : Cond) ∈ TW := twq4 (List.mem_of_getElem? (i := 18) rfl) rfl
theorem tw_802 : (Cond.code yX8_blank cX8_blank 2 none : Cond) ∈ TW := twq4 (List.mem_of_getElem? (i := 19) rfl) rfl
theorem tw_803 : (Cond.methodLink RX8 52 yX8_place : Cond) ∈ TW := twq4 (List.mem_of_getElem? (i := 20) rfl) rfl
theorem tw_805 : (Cond.instanceMethod yX8_place : Cond) ∈ TW := twq4 (List.mem_of_getElem? (i := 22) rfl) rfl
theorem tw_806 : (Cond.code yX8_place cX8_place 3 none : Cond) ∈ TW := twq4 (List.mem_of_getElem? (i := 23) rfl) rfl
theorem tw_807 : (Cond.methodLink RX8 56 yX8_setPen : Cond) ∈ TW := twq4 (List.mem_of_getElem? (i := 24) rfl) rfl
theorem tw_809 : (Cond.instanceMethod yX8_setPen : Cond) ∈ TW := twq4 (List.mem_of_getElem? (i := 26) rfl) rfl
theorem tw_810 : (Cond.code yX8_setPen cX8_setPen 2 none : Cond) ∈ TW := twq4 (List.mem_of_getElem? (i := 27) rfl) rfl
theorem tw_811 : (Cond.methodLink RX8 75 yX8_save : Cond) ∈ TW := twq4 (List.mem_of_getElem? (i := 28) rfl) rfl
theorem tw_813 : (Cond.instanceMethod yX8_save : Cond) ∈ TW := twq4 (List.mem_of_getElem? (i := 30) rfl) rfl
theorem tw_814 : (Cond.code yX8_save cX8_save 1 none : Cond) ∈ TW := twq4 (List.mem_of_getElem? (i := 31) rfl) rfl
theorem tw_815 : (Cond.methodLink RX8 129 yX8_penNow : Cond) ∈ TW := twq4 (List.mem_of_getElem? (i := 32) rfl) rfl
theorem tw_817 : (Cond.instanceMethod yX8_penNow : Cond) ∈ TW := twq4 (List.mem_of_getElem? (i := 34) rfl) rfl
theorem tw_818 : (Cond.code yX8_penNow cX8_penNow 1 (some .int) : Cond) ∈ TW := twq4 (List.mem_of_getElem? (i := 35) rfl) rfl
theorem tw_819 : (Cond.fieldLink RX8 7 "ScreenDeskModel" "codes" "[I" : Cond) ∈ TW := twq4 (List.mem_of_getElem? (i := 36) rfl) rfl
theorem tw_820 : (Cond.fieldLink RX8 13 "ScreenDeskModel" "looks" "[I" : Cond) ∈ TW := twq4 (List.mem_of_getElem? (i := 37) rfl) rfl
theorem tw_821 : (Cond.fieldLink RX8 16 "ScreenDeskModel" "copyCodes" "[I" : Cond) ∈ TW := twq4 (List.mem_of_getElem? (i := 38) rfl) rfl
theorem tw_822 : (Cond.fieldLink RX8 19 "ScreenDeskModel" "copyLooks" "[I" : Cond) ∈ TW := twq4 (List.mem_of_getElem? (i := 39) rfl) rfl
theorem tw_823 : (Cond.fieldLink RX8 49 "ScreenDeskModel" "page" "I" : Cond) ∈ TW := twq4 (List.mem_of_getElem? (i := 40) rfl) rfl
theorem tw_824 : (Cond.fieldLink RX8 96 "ScreenDeskModel" "row" "I" : Cond) ∈ TW := twq4 (List.mem_of_getElem? (i := 41) rfl) rfl
theorem tw_825 : (Cond.fieldLink RX8 99 "ScreenDeskModel" "column" "I" : Cond) ∈ TW := twq4 (List.mem_of_getElem? (i := 42) rfl) rfl
theorem tw_826 : (Cond.fieldLink RX8 59 "ScreenDeskModel" "top" "I" : Cond) ∈ TW := twq4 (List.mem_of_getElem? (i := 43) rfl) rfl
theorem tw_827 : (Cond.fieldLink RX8 62 "ScreenDeskModel" "bottom" "I" : Cond) ∈ TW := twq4 (List.mem_of_getElem? (i := 44) rfl) rfl
theorem tw_828 : (Cond.fieldLink RX8 102 "ScreenDeskModel" "full" "Z" : Cond) ∈ TW := twq4 (List.mem_of_getElem? (i := 45) rfl) rfl
theorem tw_829 : (Cond.fieldLink RX8 65 "ScreenDeskModel" "insert" "Z" : Cond) ∈ TW := twq4 (List.mem_of_getElem? (i := 46) rfl) rfl
theorem tw_830 : (Cond.fieldLink RX8 69 "ScreenDeskModel" "origin" "Z" : Cond) ∈ TW := twq4 (List.mem_of_getElem? (i := 47) rfl) rfl
theorem tw_831 : (Cond.fieldLink RX8 72 "ScreenDeskModel" "wrap" "Z" : Cond) ∈ TW := twq4 (List.mem_of_getElem? (i := 48) rfl) rfl
theorem tw_832 : (Cond.fieldLink RX8 105 "ScreenDeskModel" "bold" "I" : Cond) ∈ TW := twq4 (List.mem_of_getElem? (i := 49) rfl) rfl
theorem tw_833 : (Cond.fieldLink RX8 108 "ScreenDeskModel" "under" "I" : Cond) ∈ TW := twq4 (List.mem_of_getElem? (i := 50) rfl) rfl
theorem tw_834 : (Cond.fieldLink RX8 111 "ScreenDeskModel" "reverse" "I" : Cond) ∈ TW := twq4 (List.mem_of_getElem? (i := 51) rfl) rfl
theorem tw_835 : (Cond.fieldLink RX8 114 "ScreenDeskModel" "colour" "I" : Cond) ∈ TW := twq4 (List.mem_of_getElem? (i := 52) rfl) rfl
theorem tw_836 : (Cond.fieldLink RX8 117 "ScreenDeskModel" "ground" "I" : Cond) ∈ TW := twq4 (List.mem_of_getElem? (i := 53) rfl) rfl
theorem tw_837 : (Cond.fieldLink RX8 120 "ScreenDeskModel" "savedRow" "I" : Cond) ∈ TW := twq4 (List.mem_of_getElem? (i := 54) rfl) rfl
theorem tw_838 : (Cond.fieldLink RX8 123 "ScreenDeskModel" "savedColumn" "I" : Cond) ∈ TW := twq4 (List.mem_of_getElem? (i := 55) rfl) rfl
theorem tw_839 : (Cond.fieldLink RX8 133 "ScreenDeskModel" "savedPen" "I" : Cond) ∈ TW := twq4 (List.mem_of_getElem? (i := 56) rfl) rfl
theorem tw_840 : (Cond.fieldLink RX8 126 "ScreenDeskModel" "savedFull" "Z" : Cond) ∈ TW := twq4 (List.mem_of_getElem? (i := 57) rfl) rfl
theorem tw_841 : (Cond.fieldLink RX8 136 "ScreenDeskModel" "savedOrigin" "Z" : Cond) ∈ TW := twq4 (List.mem_of_getElem? (i := 58) rfl) rfl
theorem tw_842 : (Cond.fieldLink RX8 22 "ScreenDeskModel" "stops" "[Z" : Cond) ∈ TW := twq4 (List.mem_of_getElem? (i := 59) rfl) rfl
theorem tw_843 : (Cond.fieldLink RX8 90 "ScreenDeskModel" "state" "I" : Cond) ∈ TW := twq4 (List.mem_of_getElem? (i := 60) rfl) rfl
theorem tw_844 : (Cond.fieldLink RX8 78 "ScreenDeskModel" "printed" "I" : Cond) ∈ TW := twq4 (List.mem_of_getElem? (i := 61) rfl) rfl
theorem tw_845 : (Cond.fieldLink RX8 81 "ScreenDeskModel" "bells" "I" : Cond) ∈ TW := twq4 (List.mem_of_getElem? (i := 62) rfl) rfl
theorem tw_846 : (Cond.fieldLink RX8 26 "ScreenDeskModel" "replies" "[I" : Cond) ∈ TW := twq4 (List.mem_of_getElem? (i := 63) rfl) rfl
theorem tw_847 : (Cond.fieldLink RX8 84 "ScreenDeskModel" "waits" "I" : Cond) ∈ TW := twq4 (List.mem_of_getElem? (i := 64) rfl) rfl
theorem tw_848 : (Cond.fieldLink RX8 29 "ScreenDeskModel" "title" "[I" : Cond) ∈ TW := twq4 (List.mem_of_getElem? (i := 65) rfl) rfl
theorem tw_849 : (Cond.fieldLink RX8 32 "ScreenDeskModel" "collected" "[I" : Cond) ∈ TW := twq4 (List.mem_of_getElem? (i := 66) rfl) rfl
theorem tw_850 : (Cond.fieldLink RX8 87 "ScreenDeskModel" "titleSize" "I" : Cond) ∈ TW := twq4 (List.mem_of_getElem? (i := 67) rfl) rfl
theorem tw_851 : (Cond.fieldLink RX8 192 "ScreenDeskModel" "collectedSize" "I" : Cond) ∈ TW := twq4 (List.mem_of_getElem? (i := 68) rfl) rfl
theorem tw_852 : (Cond.fieldLink RX8 93 "ScreenDeskModel" "bytes" "I" : Cond) ∈ TW := twq4 (List.mem_of_getElem? (i := 69) rfl) rfl
theorem tw_853 : (Cond.fieldLink RX8 185 "ScreenDeskModel" "there" "I" : Cond) ∈ TW := twq4 (List.mem_of_getElem? (i := 70) rfl) rfl
theorem tw_854 : (Cond.fieldLink RX8 182 "ScreenDeskModel" "letter" "I" : Cond) ∈ TW := twq4 (List.mem_of_getElem? (i := 71) rfl) rfl
theorem tw_855 : (Cond.fieldLink RX8 35 "ScreenDeskModel" "numbers" "[I" : Cond) ∈ TW := twq4 (List.mem_of_getElem? (i := 72) rfl) rfl
theorem tw_856 : (Cond.fieldLink RX8 195 "ScreenDeskModel" "begun" "I" : Cond) ∈ TW := twq4 (List.mem_of_getElem? (i := 73) rfl) rfl
theorem tw_857 : (Cond.fieldLink RX8 198 "ScreenDeskModel" "isPrivate" "Z" : Cond) ∈ TW := twq4 (List.mem_of_getElem? (i := 74) rfl) rfl
theorem tw_858 : (Cond.fieldLink RX8 41 "ScreenDeskModel" "thrown" "I" : Cond) ∈ TW := twq4 (List.mem_of_getElem? (i := 75) rfl) rfl
theorem tw_940 : (Cond.arrayClass .boolean : Cond) ∈ TW := twq4 (List.mem_of_getElem? (i := 157) rfl) rfl
theorem tw_941 : (Cond.methodLink RL 84 yX8_thrown : Cond) ∈ TW := twq4 (List.mem_of_getElem? (i := 158) rfl) rfl
theorem tw_942 : (Cond.instanceMethod yX8_thrown : Cond) ∈ TW := twq4 (List.mem_of_getElem? (i := 159) rfl) rfl
theorem tw_943 : (Cond.selects RX8 yX8_thrown yX8_thrown : Cond) ∈ TW := twq4 (List.mem_of_getElem? (i := 160) rfl) rfl
theorem tw_944 : (Cond.code yX8_thrown cX8_thrown 1 (some .int) : Cond) ∈ TW := twq4 (List.mem_of_getElem? (i := 161) rfl) rfl
theorem tw_945 : (Cond.methodLink RL 32 yX8_feed : Cond) ∈ TW := twq4 (List.mem_of_getElem? (i := 162) rfl) rfl
theorem tw_946 : (Cond.instanceMethod yX8_feed : Cond) ∈ TW := twq4 (List.mem_of_getElem? (i := 163) rfl) rfl
theorem tw_947 : (Cond.selects RX8 yX8_feed yX8_feed : Cond) ∈ TW := twq4 (List.mem_of_getElem? (i := 164) rfl) rfl
theorem tw_948 : (Cond.code yX8_feed cX8_feed 2 (some .boolean) : Cond) ∈ TW := twq4 (List.mem_of_getElem? (i := 165) rfl) rfl
theorem tw_949 : (Cond.methodLink RX8 154 yX8_take : Cond) ∈ TW := twq4 (List.mem_of_getElem? (i := 166) rfl) rfl
theorem tw_951 : (Cond.instanceMethod yX8_take : Cond) ∈ TW := twq4 (List.mem_of_getElem? (i := 168) rfl) rfl
theorem tw_952 : (Cond.code yX8_take cX8_take 2 none : Cond) ∈ TW := twq4 (List.mem_of_getElem? (i := 169) rfl) rfl
theorem tw_953 : (Cond.methodLink RX8 157 yX8_further : Cond) ∈ TW := twq4 (List.mem_of_getElem? (i := 170) rfl) rfl
theorem tw_955 : (Cond.instanceMethod yX8_further : Cond) ∈ TW := twq4 (List.mem_of_getElem? (i := 172) rfl) rfl
theorem tw_956 : (Cond.code yX8_further cX8_further 4 none : Cond) ∈ TW := twq4 (List.mem_of_getElem? (i := 173) rfl) rfl
theorem tw_957 : (Cond.constant RX8 188 (65536) : Cond) ∈ TW := twq4 (List.mem_of_getElem? (i := 174) rfl) rfl
theorem tw_958 : (Cond.constant RX8 189 (55296) : Cond) ∈ TW := twq4 (List.mem_of_getElem? (i := 175) rfl) rfl
theorem tw_959 : (Cond.constant RX8 190 (57343) : Cond) ∈ TW := twq4 (List.mem_of_getElem? (i := 176) rfl) rfl
theorem tw_960 : (Cond.constant RX8 191 (1114111) : Cond) ∈ TW := twq4 (List.mem_of_getElem? (i := 177) rfl) rfl
theorem tw_961 : (Cond.constant RX8 160 (65533) : Cond) ∈ TW := twq4 (List.mem_of_getElem? (i := 178) rfl) rfl
theorem tw_962 : (Cond.methodLink RX8 161 yX8_print : Cond) ∈ TW := twq4 (List.mem_of_getElem? (i := 179) rfl) rfl
theorem tw_964 : (Cond.instanceMethod yX8_print : Cond) ∈ TW := twq4 (List.mem_of_getElem? (i := 181) rfl) rfl
theorem tw_965 : (Cond.code yX8_print cX8_print 3 none : Cond) ∈ TW := twq4 (List.mem_of_getElem? (i := 182) rfl) rfl
theorem tw_966 : (Cond.methodLink RX8 148 yX8_feeding : Cond) ∈ TW := twq4 (List.mem_of_getElem? (i := 183) rfl) rfl
theorem tw_968 : (Cond.instanceMethod yX8_feeding : Cond) ∈ TW := twq4 (List.mem_of_getElem? (i := 185) rfl) rfl
theorem tw_969 : (Cond.code yX8_feeding cX8_feeding 1 none : Cond) ∈ TW := twq4 (List.mem_of_getElem? (i := 186) rfl) rfl
theorem tw_970 : (Cond.methodLink RX8 145 yX8_shiftRows : Cond) ∈ TW := twq4 (List.mem_of_getElem? (i := 187) rfl) rfl
theorem tw_972 : (Cond.instanceMethod yX8_shiftRows : Cond) ∈ TW := twq4 (List.mem_of_getElem? (i := 189) rfl) rfl
theorem tw_973 : (Cond.code yX8_shiftRows cX8_shiftRows 6 none : Cond) ∈ TW := twq4 (List.mem_of_getElem? (i := 190) rfl) rfl
theorem tw_974 : (Cond.methodLink RX8 139 yX8_remember : Cond) ∈ TW := twq4 (List.mem_of_getElem? (i := 191) rfl) rfl
theorem tw_976 : (Cond.instanceMethod yX8_remember : Cond) ∈ TW := twq4 (List.mem_of_getElem? (i := 193) rfl) rfl
theorem tw_977 : (Cond.code yX8_remember cX8_remember 2 none : Cond) ∈ TW := twq4 (List.mem_of_getElem? (i := 194) rfl) rfl
theorem tw_978 : (Cond.methodLink RX8 142 yX8_recall : Cond) ∈ TW := twq4 (List.mem_of_getElem? (i := 195) rfl) rfl
theorem tw_980 : (Cond.instanceMethod yX8_recall : Cond) ∈ TW := twq4 (List.mem_of_getElem? (i := 197) rfl) rfl
theorem tw_981 : (Cond.code yX8_recall cX8_recall 4 none : Cond) ∈ TW := twq4 (List.mem_of_getElem? (i := 198) rfl) rfl
theorem tw_982 : (Cond.methodLink RX8 151 yX8_shiftCells : Cond) ∈ TW := twq4 (List.mem_of_getElem? (i := 199) rfl) rfl
theorem tw_984 : (Cond.instanceMethod yX8_shiftCells : Cond) ∈ TW := twq4 (List.mem_of_getElem? (i := 201) rfl) rfl
theorem tw_985 : (Cond.code yX8_shiftCells cX8_shiftCells 4 none : Cond) ∈ TW := twq4 (List.mem_of_getElem? (i := 202) rfl) rfl
theorem tw_986 : (Cond.methodLink RX8 164 yX8_control : Cond) ∈ TW := twq4 (List.mem_of_getElem? (i := 203) rfl) rfl
theorem tw_988 : (Cond.instanceMethod yX8_control : Cond) ∈ TW := twq4 (List.mem_of_getElem? (i := 205) rfl) rfl
theorem tw_989 : (Cond.code yX8_control cX8_control 5 none : Cond) ∈ TW := twq4 (List.mem_of_getElem? (i := 206) rfl) rfl
theorem tw_990 : (Cond.methodLink RX8 167 yX8_letterByte : Cond) ∈ TW := twq4 (List.mem_of_getElem? (i := 207) rfl) rfl
theorem tw_992 : (Cond.instanceMethod yX8_letterByte : Cond) ∈ TW := twq4 (List.mem_of_getElem? (i := 209) rfl) rfl
theorem tw_993 : (Cond.code yX8_letterByte cX8_letterByte 2 none : Cond) ∈ TW := twq4 (List.mem_of_getElem? (i := 210) rfl) rfl
theorem tw_994 : (Cond.methodLink RX8 170 yX8_sequenceByte : Cond) ∈ TW := twq4 (List.mem_of_getElem? (i := 211) rfl) rfl
theorem tw_996 : (Cond.instanceMethod yX8_sequenceByte : Cond) ∈ TW := twq4 (List.mem_of_getElem? (i := 213) rfl) rfl
theorem tw_997 : (Cond.code yX8_sequenceByte cX8_sequenceByte 2 none : Cond) ∈ TW := twq4 (List.mem_of_getElem? (i := 214) rfl) rfl
theorem tw_998 : (Cond.methodLink RX8 173 yX8_escape : Cond) ∈ TW := twq4 (List.mem_of_getElem? (i := 215) rfl) rfl
theorem tw_1000 : (Cond.instanceMethod yX8_escape : Cond) ∈ TW := twq4 (List.mem_of_getElem? (i := 217) rfl) rfl
theorem tw_1001 : (Cond.code yX8_escape cX8_escape 3 none : Cond) ∈ TW := twq4 (List.mem_of_getElem? (i := 218) rfl) rfl
theorem tw_1002 : (Cond.methodLink RX8 201 yX8_bring : Cond) ∈ TW := twq4 (List.mem_of_getElem? (i := 219) rfl) rfl
theorem tw_1004 : (Cond.instanceMethod yX8_bring : Cond) ∈ TW := twq4 (List.mem_of_getElem? (i := 221) rfl) rfl
theorem tw_1005 : (Cond.code yX8_bring cX8_bring 1 none : Cond) ∈ TW := twq4 (List.mem_of_getElem? (i := 222) rfl) rfl
theorem tw_1006 : (Cond.methodLink RX8 204 yX8_backing : Cond) ∈ TW := twq4 (List.mem_of_getElem? (i := 223) rfl) rfl
theorem tw_1008 : (Cond.instanceMethod yX8_backing : Cond) ∈ TW := twq4 (List.mem_of_getElem? (i := 225) rfl) rfl
theorem tw_1009 : (Cond.code yX8_backing cX8_backing 1 none : Cond) ∈ TW := twq4 (List.mem_of_getElem? (i := 226) rfl) rfl
theorem tw_1010 : (Cond.methodLink RX8 176 yX8_sequence : Cond) ∈ TW := twq4 (List.mem_of_getElem? (i := 227) rfl) rfl
theorem tw_1012 : (Cond.instanceMethod yX8_sequence : Cond) ∈ TW := twq4 (List.mem_of_getElem? (i := 229) rfl) rfl
theorem tw_1013 : (Cond.code yX8_sequence cX8_sequence 3 none : Cond) ∈ TW := twq4 (List.mem_of_getElem? (i := 230) rfl) rfl
theorem tw_1014 : (Cond.methodLink RX8 207 yX8_privately : Cond) ∈ TW := twq4 (List.mem_of_getElem? (i := 231) rfl) rfl
theorem tw_1016 : (Cond.instanceMethod yX8_privately : Cond) ∈ TW := twq4 (List.mem_of_getElem? (i := 233) rfl) rfl
theorem tw_1017 : (Cond.code yX8_privately cX8_privately 4 none : Cond) ∈ TW := twq4 (List.mem_of_getElem? (i := 234) rfl) rfl
theorem tw_1018 : (Cond.methodLink RX8 213 yX8_kept : Cond) ∈ TW := twq4 (List.mem_of_getElem? (i := 235) rfl) rfl
theorem tw_1020 : (Cond.instanceMethod yX8_kept : Cond) ∈ TW := twq4 (List.mem_of_getElem? (i := 237) rfl) rfl
theorem tw_1021 : (Cond.code yX8_kept cX8_kept 1 (some .int) : Cond) ∈ TW := twq4 (List.mem_of_getElem? (i := 238) rfl) rfl
theorem tw_1022 : (Cond.methodLink RX8 216 yX8_home : Cond) ∈ TW := twq4 (List.mem_of_getElem? (i := 239) rfl) rfl
theorem tw_1024 : (Cond.instanceMethod yX8_home : Cond) ∈ TW := twq5 (List.mem_of_getElem? (i := 1) rfl) rfl
theorem tw_1025 : (Cond.code yX8_home cX8_home 4 none : Cond) ∈ TW := twq5 (List.mem_of_getElem? (i := 2) rfl) rfl
theorem tw_1026 : (Cond.methodLink RX8 222 yX8_atMost : Cond) ∈ TW := twq5 (List.mem_of_getElem? (i := 3) rfl) rfl
theorem tw_1027 : (Cond.static yX8_atMost : Cond) ∈ TW := twq5 (List.mem_of_getElem? (i := 4) rfl) rfl
theorem tw_1028 : (Cond.code yX8_atMost cX8_atMost 2 (some .int) : Cond) ∈ TW := twq5 (List.mem_of_getElem? (i := 5) rfl) rfl
theorem tw_1029 : (Cond.methodLink RX8 219 yX8_clear : Cond) ∈ TW := twq5 (List.mem_of_getElem? (i := 6) rfl) rfl
theorem tw_1031 : (Cond.instanceMethod yX8_clear : Cond) ∈ TW := twq5 (List.mem_of_getElem? (i := 8) rfl) rfl
theorem tw_1032 : (Cond.code yX8_clear cX8_clear 4 none : Cond) ∈ TW := twq5 (List.mem_of_getElem? (i := 9) rfl) rfl
theorem tw_1033 : (Cond.methodLink RX8 210 yX8_doIt : Cond) ∈ TW := twq5 (List.mem_of_getElem? (i := 10) rfl) rfl
theorem tw_1035 : (Cond.instanceMethod yX8_doIt : Cond) ∈ TW := twq5 (List.mem_of_getElem? (i := 12) rfl) rfl
theorem tw_1036 : (Cond.code yX8_doIt cX8_doIt 3 none : Cond) ∈ TW := twq5 (List.mem_of_getElem? (i := 13) rfl) rfl
theorem tw_1037 : (Cond.methodLink RX8 229 yX8_above : Cond) ∈ TW := twq5 (List.mem_of_getElem? (i := 14) rfl) rfl
theorem tw_1039 : (Cond.instanceMethod yX8_above : Cond) ∈ TW := twq5 (List.mem_of_getElem? (i := 16) rfl) rfl
theorem tw_1040 : (Cond.code yX8_above cX8_above 2 (some .int) : Cond) ∈ TW := twq5 (List.mem_of_getElem? (i := 17) rfl) rfl
theorem tw_1041 : (Cond.methodLink RX8 226 yX8_atLeast : Cond) ∈ TW := twq5 (List.mem_of_getElem? (i := 18) rfl) rfl
theorem tw_1042 : (Cond.static yX8_atLeast : Cond) ∈ TW := twq5 (List.mem_of_getElem? (i := 19) rfl) rfl
theorem tw_1043 : (Cond.code yX8_atLeast cX8_atLeast 2 (some .int) : Cond) ∈ TW := twq5 (List.mem_of_getElem? (i := 20) rfl) rfl
theorem tw_1044 : (Cond.methodLink RX8 233 yX8_below : Cond) ∈ TW := twq5 (List.mem_of_getElem? (i := 21) rfl) rfl
theorem tw_1046 : (Cond.instanceMethod yX8_below : Cond) ∈ TW := twq5 (List.mem_of_getElem? (i := 23) rfl) rfl
theorem tw_1047 : (Cond.code yX8_below cX8_below 2 (some .int) : Cond) ∈ TW := twq5 (List.mem_of_getElem? (i := 24) rfl) rfl
theorem tw_1048 : (Cond.methodLink RX8 236 yX8_change : Cond) ∈ TW := twq5 (List.mem_of_getElem? (i := 25) rfl) rfl
theorem tw_1050 : (Cond.instanceMethod yX8_change : Cond) ∈ TW := twq5 (List.mem_of_getElem? (i := 27) rfl) rfl
theorem tw_1051 : (Cond.code yX8_change cX8_change 6 none : Cond) ∈ TW := twq5 (List.mem_of_getElem? (i := 28) rfl) rfl
theorem tw_1052 : (Cond.methodLink RX8 239 yX8_set : Cond) ∈ TW := twq5 (List.mem_of_getElem? (i := 29) rfl) rfl
theorem tw_1054 : (Cond.instanceMethod yX8_set : Cond) ∈ TW := twq5 (List.mem_of_getElem? (i := 31) rfl) rfl
theorem tw_1055 : (Cond.code yX8_set cX8_set 5 none : Cond) ∈ TW := twq5 (List.mem_of_getElem? (i := 32) rfl) rfl
theorem tw_1056 : (Cond.methodLink RX8 242 yX8_dip : Cond) ∈ TW := twq5 (List.mem_of_getElem? (i := 33) rfl) rfl
theorem tw_1058 : (Cond.instanceMethod yX8_dip : Cond) ∈ TW := twq5 (List.mem_of_getElem? (i := 35) rfl) rfl
theorem tw_1059 : (Cond.code yX8_dip cX8_dip 2 none : Cond) ∈ TW := twq5 (List.mem_of_getElem? (i := 36) rfl) rfl
theorem tw_1060 : (Cond.methodLink RX8 245 yX8_answer : Cond) ∈ TW := twq5 (List.mem_of_getElem? (i := 37) rfl) rfl
theorem tw_1062 : (Cond.instanceMethod yX8_answer : Cond) ∈ TW := twq5 (List.mem_of_getElem? (i := 39) rfl) rfl
theorem tw_1063 : (Cond.code yX8_answer cX8_answer 4 none : Cond) ∈ TW := twq5 (List.mem_of_getElem? (i := 40) rfl) rfl
theorem tw_1064 : (Cond.methodLink RX8 248 yX8_put : Cond) ∈ TW := twq5 (List.mem_of_getElem? (i := 41) rfl) rfl
theorem tw_1066 : (Cond.instanceMethod yX8_put : Cond) ∈ TW := twq5 (List.mem_of_getElem? (i := 43) rfl) rfl
theorem tw_1067 : (Cond.code yX8_put cX8_put 2 none : Cond) ∈ TW := twq5 (List.mem_of_getElem? (i := 44) rfl) rfl
theorem tw_1068 : (Cond.methodLink RX8 179 yX8_titleByte : Cond) ∈ TW := twq5 (List.mem_of_getElem? (i := 45) rfl) rfl
theorem tw_1070 : (Cond.instanceMethod yX8_titleByte : Cond) ∈ TW := twq5 (List.mem_of_getElem? (i := 47) rfl) rfl
theorem tw_1071 : (Cond.code yX8_titleByte cX8_titleByte 3 none : Cond) ∈ TW := twq5 (List.mem_of_getElem? (i := 48) rfl) rfl
theorem tw_1072 : (Cond.methodLink RL 39 yX8_feedAll : Cond) ∈ TW := twq5 (List.mem_of_getElem? (i := 49) rfl) rfl
theorem tw_1073 : (Cond.instanceMethod yX8_feedAll : Cond) ∈ TW := twq5 (List.mem_of_getElem? (i := 50) rfl) rfl
theorem tw_1074 : (Cond.selects RX8 yX8_feedAll yX8_feedAll : Cond) ∈ TW := twq5 (List.mem_of_getElem? (i := 51) rfl) rfl
theorem tw_1075 : (Cond.code yX8_feedAll cX8_feedAll 7 (some .int) : Cond) ∈ TW := twq5 (List.mem_of_getElem? (i := 52) rfl) rfl
theorem tw_1076 : (Cond.methodLink RL 43 yX8_row : Cond) ∈ TW := twq5 (List.mem_of_getElem? (i := 53) rfl) rfl
theorem tw_1077 : (Cond.instanceMethod yX8_row : Cond) ∈ TW := twq5 (List.mem_of_getElem? (i := 54) rfl) rfl
theorem tw_1078 : (Cond.selects RX8 yX8_row yX8_row : Cond) ∈ TW := twq5 (List.mem_of_getElem? (i := 55) rfl) rfl
theorem tw_1079 : (Cond.code yX8_row cX8_row 1 (some .int) : Cond) ∈ TW := twq5 (List.mem_of_getElem? (i := 56) rfl) rfl
theorem tw_1080 : (Cond.methodLink RL 47 yX8_column : Cond) ∈ TW := twq5 (List.mem_of_getElem? (i := 57) rfl) rfl
theorem tw_1081 : (Cond.instanceMethod yX8_column : Cond) ∈ TW := twq5 (List.mem_of_getElem? (i := 58) rfl) rfl
theorem tw_1082 : (Cond.selects RX8 yX8_column yX8_column : Cond) ∈ TW := twq5 (List.mem_of_getElem? (i := 59) rfl) rfl
theorem tw_1083 : (Cond.code yX8_column cX8_column 1 (some .int) : Cond) ∈ TW := twq5 (List.mem_of_getElem? (i := 60) rfl) rfl
theorem tw_1084 : (Cond.methodLink RL 52 yX8_full : Cond) ∈ TW := twq5 (List.mem_of_getElem? (i := 61) rfl) rfl
theorem tw_1085 : (Cond.instanceMethod yX8_full : Cond) ∈ TW := twq5 (List.mem_of_getElem? (i := 62) rfl) rfl
theorem tw_1086 : (Cond.selects RX8 yX8_full yX8_full : Cond) ∈ TW := twq5 (List.mem_of_getElem? (i := 63) rfl) rfl
theorem tw_1087 : (Cond.code yX8_full cX8_full 1 (some .boolean) : Cond) ∈ TW := twq5 (List.mem_of_getElem? (i := 64) rfl) rfl
theorem tw_1088 : (Cond.methodLink RL 56 yX8_pen : Cond) ∈ TW := twq5 (List.mem_of_getElem? (i := 65) rfl) rfl
theorem tw_1089 : (Cond.instanceMethod yX8_pen : Cond) ∈ TW := twq5 (List.mem_of_getElem? (i := 66) rfl) rfl
theorem tw_1090 : (Cond.selects RX8 yX8_pen yX8_pen : Cond) ∈ TW := twq5 (List.mem_of_getElem? (i := 67) rfl) rfl
theorem tw_1091 : (Cond.code yX8_pen cX8_pen 1 (some .int) : Cond) ∈ TW := twq5 (List.mem_of_getElem? (i := 68) rfl) rfl
theorem tw_1092 : (Cond.methodLink RL 61 yX8_mode : Cond) ∈ TW := twq5 (List.mem_of_getElem? (i := 69) rfl) rfl
theorem tw_1093 : (Cond.instanceMethod yX8_mode : Cond) ∈ TW := twq5 (List.mem_of_getElem? (i := 70) rfl) rfl
theorem tw_1094 : (Cond.selects RX8 yX8_mode yX8_mode : Cond) ∈ TW := twq5 (List.mem_of_getElem? (i := 71) rfl) rfl
theorem tw_1095 : (Cond.code yX8_mode cX8_mode 3 (some .int) : Cond) ∈ TW := twq5 (List.mem_of_getElem? (i := 72) rfl) rfl
theorem tw_1096 : (Cond.methodLink RL 65 yX8_region : Cond) ∈ TW := twq5 (List.mem_of_getElem? (i := 73) rfl) rfl
theorem tw_1097 : (Cond.instanceMethod yX8_region : Cond) ∈ TW := twq5 (List.mem_of_getElem? (i := 74) rfl) rfl
theorem tw_1098 : (Cond.selects RX8 yX8_region yX8_region : Cond) ∈ TW := twq5 (List.mem_of_getElem? (i := 75) rfl) rfl
theorem tw_1099 : (Cond.code yX8_region cX8_region 1 (some .int) : Cond) ∈ TW := twq5 (List.mem_of_getElem? (i := 76) rfl) rfl
theorem tw_1100 : (Cond.methodLink RL 69 yX8_tab : Cond) ∈ TW := twq5 (List.mem_of_getElem? (i := 77) rfl) rfl
theorem tw_1101 : (Cond.instanceMethod yX8_tab : Cond) ∈ TW := twq5 (List.mem_of_getElem? (i := 78) rfl) rfl
theorem tw_1102 : (Cond.selects RX8 yX8_tab yX8_tab : Cond) ∈ TW := twq5 (List.mem_of_getElem? (i := 79) rfl) rfl
theorem tw_1103 : (Cond.code yX8_tab cX8_tab 2 (some .boolean) : Cond) ∈ TW := twq5 (List.mem_of_getElem? (i := 80) rfl) rfl
theorem tw_1104 : (Cond.methodLink RL 73 yX8_bells : Cond) ∈ TW := twq5 (List.mem_of_getElem? (i := 81) rfl) rfl
theorem tw_1105 : (Cond.instanceMethod yX8_bells : Cond) ∈ TW := twq5 (List.mem_of_getElem? (i := 82) rfl) rfl
theorem tw_1106 : (Cond.selects RX8 yX8_bells yX8_bells : Cond) ∈ TW := twq5 (List.mem_of_getElem? (i := 83) rfl) rfl
theorem tw_1107 : (Cond.code yX8_bells cX8_bells 1 (some .int) : Cond) ∈ TW := twq5 (List.mem_of_getElem? (i := 84) rfl) rfl
theorem tw_1108 : (Cond.methodLink RL 77 yX8_state : Cond) ∈ TW := twq5 (List.mem_of_getElem? (i := 85) rfl) rfl
theorem tw_1109 : (Cond.instanceMethod yX8_state : Cond) ∈ TW := twq5 (List.mem_of_getElem? (i := 86) rfl) rfl
theorem tw_1110 : (Cond.selects RX8 yX8_state yX8_state : Cond) ∈ TW := twq5 (List.mem_of_getElem? (i := 87) rfl) rfl
theorem tw_1111 : (Cond.code yX8_state cX8_state 1 (some .int) : Cond) ∈ TW := twq5 (List.mem_of_getElem? (i := 88) rfl) rfl
theorem tw_1112 : (Cond.methodLink RL 83 yX8_code : Cond) ∈ TW := twq5 (List.mem_of_getElem? (i := 89) rfl) rfl
theorem tw_1113 : (Cond.instanceMethod yX8_code : Cond) ∈ TW := twq5 (List.mem_of_getElem? (i := 90) rfl) rfl
theorem tw_1114 : (Cond.selects RX8 yX8_code yX8_code : Cond) ∈ TW := twq5 (List.mem_of_getElem? (i := 91) rfl) rfl
theorem tw_1115 : (Cond.code yX8_code cX8_code 3 (some .int) : Cond) ∈ TW := twq5 (List.mem_of_getElem? (i := 92) rfl) rfl
theorem tw_1116 : (Cond.methodLink RX8 251 yX8_isCell : Cond) ∈ TW := twq5 (List.mem_of_getElem? (i := 93) rfl) rfl
theorem tw_1118 : (Cond.instanceMethod yX8_isCell : Cond) ∈ TW := twq5 (List.mem_of_getElem? (i := 95) rfl) rfl
theorem tw_1119 : (Cond.code yX8_isCell cX8_isCell 3 (some .boolean) : Cond) ∈ TW := twq5 (List.mem_of_getElem? (i := 96) rfl) rfl
theorem tw_1120 : (Cond.methodLink RL 89 yX8_look : Cond) ∈ TW := twq5 (List.mem_of_getElem? (i := 97) rfl) rfl
theorem tw_1121 : (Cond.instanceMethod yX8_look : Cond) ∈ TW := twq5 (List.mem_of_getElem? (i := 98) rfl) rfl
theorem tw_1122 : (Cond.selects RX8 yX8_look yX8_look : Cond) ∈ TW := twq5 (List.mem_of_getElem? (i := 99) rfl) rfl
theorem tw_1123 : (Cond.code yX8_look cX8_look 3 (some .int) : Cond) ∈ TW := twq5 (List.mem_of_getElem? (i := 100) rfl) rfl
theorem tw_1124 : (Cond.methodLink RL 93 yX8_cells : Cond) ∈ TW := twq5 (List.mem_of_getElem? (i := 101) rfl) rfl
theorem tw_1125 : (Cond.instanceMethod yX8_cells : Cond) ∈ TW := twq5 (List.mem_of_getElem? (i := 102) rfl) rfl
theorem tw_1126 : (Cond.selects RX8 yX8_cells yX8_cells : Cond) ∈ TW := twq5 (List.mem_of_getElem? (i := 103) rfl) rfl
theorem tw_1127 : (Cond.code yX8_cells cX8_cells 5 (some .int) : Cond) ∈ TW := twq5 (List.mem_of_getElem? (i := 104) rfl) rfl
theorem tw_1128 : (Cond.methodLink RL 97 yX8_waiting : Cond) ∈ TW := twq5 (List.mem_of_getElem? (i := 105) rfl) rfl
theorem tw_1129 : (Cond.instanceMethod yX8_waiting : Cond) ∈ TW := twq5 (List.mem_of_getElem? (i := 106) rfl) rfl
theorem tw_1130 : (Cond.selects RX8 yX8_waiting yX8_waiting : Cond) ∈ TW := twq5 (List.mem_of_getElem? (i := 107) rfl) rfl
theorem tw_1131 : (Cond.code yX8_waiting cX8_waiting 1 (some .int) : Cond) ∈ TW := twq5 (List.mem_of_getElem? (i := 108) rfl) rfl
theorem tw_1132 : (Cond.methodLink RL 101 yX8_reply : Cond) ∈ TW := twq5 (List.mem_of_getElem? (i := 109) rfl) rfl
theorem tw_1133 : (Cond.instanceMethod yX8_reply : Cond) ∈ TW := twq5 (List.mem_of_getElem? (i := 110) rfl) rfl
theorem tw_1134 : (Cond.selects RX8 yX8_reply yX8_reply : Cond) ∈ TW := twq5 (List.mem_of_getElem? (i := 111) rfl) rfl
theorem tw_1135 : (Cond.code yX8_reply cX8_reply 3 (some .int) : Cond) ∈ TW := twq5 (List.mem_of_getElem? (i := 112) rfl) rfl
theorem tw_1136 : (Cond.methodLink RL 105 yX8_title : Cond) ∈ TW := twq5 (List.mem_of_getElem? (i := 113) rfl) rfl
theorem tw_1137 : (Cond.instanceMethod yX8_title : Cond) ∈ TW := twq5 (List.mem_of_getElem? (i := 114) rfl) rfl
theorem tw_1138 : (Cond.selects RX8 yX8_title yX8_title : Cond) ∈ TW := twq5 (List.mem_of_getElem? (i := 115) rfl) rfl
theorem tw_1139 : (Cond.code yX8_title cX8_title 2 (some .int) : Cond) ∈ TW := twq5 (List.mem_of_getElem? (i := 116) rfl) rfl
theorem tw_1140 : (Cond.constantLong RL 33 (4294967295) : Cond) ∈ TW := twq5 (List.mem_of_getElem? (i := 117) rfl) rfl
theorem tw_1141 : (Cond.arrayClass .long : Cond) ∈ TW := twq5 (List.mem_of_getElem? (i := 118) rfl) rfl
theorem tw_mx1 : Cond.static Lib.Math.max.name ∈ TW := tw_382
theorem tw_mx2 : Cond.initialized "java/lang/Math" ∈ TW := tw_73
theorem tw_mx3 : Cond.code Lib.Math.max.name Lib.Math.max.code 2 (some .int) ∈ TW := tw_383
theorem tw_mn1 : Cond.static Lib.Math.min.name ∈ TW := tw_389
theorem tw_mn3 : Cond.code Lib.Math.min.name Lib.Math.min.code 2 (some .int) ∈ TW := tw_390
theorem tw_X0 : ∀ w ∈ wsX00, w ∈ TW := by
  have h : wsX00 = [130, 132, 134, 136, 138].filterMap (fun i => lw_tbl[i]?) := by decide +kernel
  have g : wsX00.all goodWord = true := by decide +kernel
  intro w hw
  refine List.mem_filter.mpr ⟨?_, List.all_eq_true.mp g w hw⟩
  rw [h] at hw
  obtain ⟨i, -, hi⟩ := List.mem_filterMap.mp hw
  exact List.mem_of_getElem? hi
theorem tw_X1 : ∀ w ∈ wsX10, w ∈ TW := by
  have h : wsX10 = [195, 197, 199].filterMap (fun i => lw_tbl[i]?) := by decide +kernel
  have g : wsX10.all goodWord = true := by decide +kernel
  intro w hw
  refine List.mem_filter.mpr ⟨?_, List.all_eq_true.mp g w hw⟩
  rw [h] at hw
  obtain ⟨i, -, hi⟩ := List.mem_filterMap.mp hw
  exact List.mem_of_getElem? hi
theorem tw_X2 : ∀ w ∈ wsX20, w ∈ TW := by
  have h : wsX20 = [212, 214, 216].filterMap (fun i => lw_tbl[i]?) := by decide +kernel
  have g : wsX20.all goodWord = true := by decide +kernel
  intro w hw
  refine List.mem_filter.mpr ⟨?_, List.all_eq_true.mp g w hw⟩
  rw [h] at hw
  obtain ⟨i, -, hi⟩ := List.mem_filterMap.mp hw
  exact List.mem_of_getElem? hi
theorem tw_X3 : ∀ w ∈ wsX30, w ∈ TW := by
  have h : wsX30 = [103, 105].filterMap (fun i => lw_tbl[i]?) := by decide +kernel
  have g : wsX30.all goodWord = true := by decide +kernel
  intro w hw
  refine List.mem_filter.mpr ⟨?_, List.all_eq_true.mp g w hw⟩
  rw [h] at hw
  obtain ⟨i, -, hi⟩ := List.mem_filterMap.mp hw
  exact List.mem_of_getElem? hi
theorem tw_X4 : ∀ w ∈ wsX40, w ∈ TW := by
  have h : wsX40 = [241, 243].filterMap (fun i => lw_tbl[i]?) := by decide +kernel
  have g : wsX40.all goodWord = true := by decide +kernel
  intro w hw
  refine List.mem_filter.mpr ⟨?_, List.all_eq_true.mp g w hw⟩
  rw [h] at hw
  obtain ⟨i, -, hi⟩ := List.mem_filterMap.mp hw
  exact List.mem_of_getElem? hi
theorem tw_X5 : ∀ w ∈ wsX50, w ∈ TW := by
  have h : wsX50 = [160, 162, 164, 166, 168, 170, 172, 174, 176, 178, 180, 182].filterMap (fun i => lw_tbl[i]?) := by decide +kernel
  have g : wsX50.all goodWord = true := by decide +kernel
  intro w hw
  refine List.mem_filter.mpr ⟨?_, List.all_eq_true.mp g w hw⟩
  rw [h] at hw
  obtain ⟨i, -, hi⟩ := List.mem_filterMap.mp hw
  exact List.mem_of_getElem? hi
theorem tw_X6 : ∀ w ∈ wsX60, w ∈ TW := by
  have h : wsX60 = [227, 229].filterMap (fun i => lw_tbl[i]?) := by decide +kernel
  have g : wsX60.all goodWord = true := by decide +kernel
  intro w hw
  refine List.mem_filter.mpr ⟨?_, List.all_eq_true.mp g w hw⟩
  rw [h] at hw
  obtain ⟨i, -, hi⟩ := List.mem_filterMap.mp hw
  exact List.mem_of_getElem? hi
theorem tw_X7 : ∀ w ∈ wsX70, w ∈ TW := by
  have h : wsX70 = [289, 291, 293, 295, 297, 299, 301].filterMap (fun i => lw_tbl[i]?) := by decide +kernel
  have g : wsX70.all goodWord = true := by decide +kernel
  intro w hw
  refine List.mem_filter.mpr ⟨?_, List.all_eq_true.mp g w hw⟩
  rw [h] at hw
  obtain ⟨i, -, hi⟩ := List.mem_filterMap.mp hw
  exact List.mem_of_getElem? hi
theorem tw_X8 : ∀ w ∈ wsX80, w ∈ TW := by
  have h : wsX80 = [859, 861, 863, 865, 867, 869, 871, 873, 875, 877, 879, 881, 883, 885, 887, 889, 891, 893, 895, 897, 899, 901, 903, 905, 907, 909, 911, 913, 915, 917, 919, 921, 923, 925, 927, 929, 931, 933, 935, 937].filterMap (fun i => lw_tbl[i]?) := by decide +kernel
  have g : wsX80.all goodWord = true := by decide +kernel
  intro w hw
  refine List.mem_filter.mpr ⟨?_, List.all_eq_true.mp g w hw⟩
  rw [h] at hw
  obtain ⟨i, -, hi⟩ := List.mem_filterMap.mp hw
  exact List.mem_of_getElem? hi
end
