section
-- ===== PART A: goes FIRST, ahead of the names: the tables' words, and 'selects' of the private methods out of them =====
/-- a private method of a class that the tables say can be made, by its rows of tables_1 -/
def lw_okq (q : MethodName × Nat) : Prop := (q.1.cls ≠ "java/lang/invoke/MethodHandle" ∧ q.1.cls ≠ "java/lang/invoke/VarHandle") ∧ Cond.instantiable q.1.cls q.2 ∈ tables_1 ∧ Cond.privateMethod q.1 ∈ tables_1 ∧ Cond.instanceMethod q.1 ∈ tables_1
theorem lw_p0 : lw_okq (⟨"AlarmDesk", "noteBefore", "()V"⟩, 6) := ⟨⟨by decide +kernel, by decide +kernel⟩, List.mem_of_getElem? (i := 15) (by decide +kernel), List.mem_of_getElem? (i := 229) (by decide +kernel), List.mem_of_getElem? (i := 230) (by decide +kernel)⟩
theorem lw_p1 : lw_okq (⟨"AlarmDesk", "settle", "(I)I"⟩, 6) := ⟨⟨by decide +kernel, by decide +kernel⟩, List.mem_of_getElem? (i := 15) (by decide +kernel), List.mem_of_getElem? (i := 265) (by decide +kernel), List.mem_of_getElem? (i := 266) (by decide +kernel)⟩
theorem lw_p2 : lw_okq (⟨"AlarmDesk", "keepBefore", "()V"⟩, 6) := ⟨⟨by decide +kernel, by decide +kernel⟩, List.mem_of_getElem? (i := 15) (by decide +kernel), List.mem_of_getElem? (i := 272) (by decide +kernel), List.mem_of_getElem? (i := 273) (by decide +kernel)⟩
theorem lw_p3 : lw_okq (⟨"AlarmDesk$State", "endShelf", "(I)V"⟩, 9) := ⟨⟨by decide +kernel, by decide +kernel⟩, List.mem_of_getElem? (i := 62) (by decide +kernel), List.mem_of_getElem? (i := 300) (by decide +kernel), List.mem_of_getElem? (i := 301) (by decide +kernel)⟩
theorem lw_p4 : lw_okq (⟨"AlarmDesk$State", "isOnWayUp", "(II)Z"⟩, 9) := ⟨⟨by decide +kernel, by decide +kernel⟩, List.mem_of_getElem? (i := 62) (by decide +kernel), List.mem_of_getElem? (i := 319) (by decide +kernel), List.mem_of_getElem? (i := 320) (by decide +kernel)⟩
theorem lw_p5 : lw_okq (⟨"AlarmDesk$State", "whyHidden", "(I)I"⟩, 9) := ⟨⟨by decide +kernel, by decide +kernel⟩, List.mem_of_getElem? (i := 62) (by decide +kernel), List.mem_of_getElem? (i := 341) (by decide +kernel), List.mem_of_getElem? (i := 342) (by decide +kernel)⟩
theorem lw_p6 : lw_okq (⟨"AlarmDesk$State", "hasRootInAlarm", "(LAlarmDesk$Point;)Z"⟩, 9) := ⟨⟨by decide +kernel, by decide +kernel⟩, List.mem_of_getElem? (i := 62) (by decide +kernel), List.mem_of_getElem? (i := 349) (by decide +kernel), List.mem_of_getElem? (i := 350) (by decide +kernel)⟩
theorem lw_p7 : lw_okq (⟨"AlarmDesk$State", "isFlooded", "(LAlarmDesk$Point;)Z"⟩, 9) := ⟨⟨by decide +kernel, by decide +kernel⟩, List.mem_of_getElem? (i := 62) (by decide +kernel), List.mem_of_getElem? (i := 353) (by decide +kernel), List.mem_of_getElem? (i := 354) (by decide +kernel)⟩
theorem lw_p8 : lw_okq (⟨"AlarmDesk$State", "passTick", "()V"⟩, 9) := ⟨⟨by decide +kernel, by decide +kernel⟩, List.mem_of_getElem? (i := 62) (by decide +kernel), List.mem_of_getElem? (i := 390) (by decide +kernel), List.mem_of_getElem? (i := 391) (by decide +kernel)⟩
theorem lw_p9 : lw_okq (⟨"AlarmDesk$State", "movePoint", "(I)V"⟩, 9) := ⟨⟨by decide +kernel, by decide +kernel⟩, List.mem_of_getElem? (i := 62) (by decide +kernel), List.mem_of_getElem? (i := 399) (by decide +kernel), List.mem_of_getElem? (i := 400) (by decide +kernel)⟩
theorem lw_p10 : lw_okq (⟨"AlarmDesk$Point", "isClear", "(II)Z"⟩, 11) := ⟨⟨by decide +kernel, by decide +kernel⟩, List.mem_of_getElem? (i := 120) (by decide +kernel), List.mem_of_getElem? (i := 407) (by decide +kernel), List.mem_of_getElem? (i := 408) (by decide +kernel)⟩
theorem lw_p11 : lw_okq (⟨"AlarmDesk$Point", "isOver", "(I)Z"⟩, 11) := ⟨⟨by decide +kernel, by decide +kernel⟩, List.mem_of_getElem? (i := 120) (by decide +kernel), List.mem_of_getElem? (i := 411) (by decide +kernel), List.mem_of_getElem? (i := 412) (by decide +kernel)⟩
theorem lw_p12 : lw_okq (⟨"AlarmDesk$State", "activate", "(I)V"⟩, 9) := ⟨⟨by decide +kernel, by decide +kernel⟩, List.mem_of_getElem? (i := 62) (by decide +kernel), List.mem_of_getElem? (i := 419) (by decide +kernel), List.mem_of_getElem? (i := 420) (by decide +kernel)⟩
theorem lw_p13 : lw_okq (⟨"AlarmDesk$State", "lookAtFlood", "()V"⟩, 9) := ⟨⟨by decide +kernel, by decide +kernel⟩, List.mem_of_getElem? (i := 62) (by decide +kernel), List.mem_of_getElem? (i := 427) (by decide +kernel), List.mem_of_getElem? (i := 428) (by decide +kernel)⟩
theorem lw_p14 : lw_okq (⟨"AlarmDesk$State", "comesBefore", "(II)Z"⟩, 9) := ⟨⟨by decide +kernel, by decide +kernel⟩, List.mem_of_getElem? (i := 62) (by decide +kernel), List.mem_of_getElem? (i := 460) (by decide +kernel), List.mem_of_getElem? (i := 461) (by decide +kernel)⟩
theorem lw_p15 : lw_okq (⟨"AlarmDesk$Script", "readCommand", "(I)Z"⟩, 8) := ⟨⟨by decide +kernel, by decide +kernel⟩, List.mem_of_getElem? (i := 23) (by decide +kernel), List.mem_of_getElem? (i := 566) (by decide +kernel), List.mem_of_getElem? (i := 567) (by decide +kernel)⟩
def lw_privs_1 : List (MethodName × Nat) := [(⟨"AlarmDesk", "noteBefore", "()V"⟩, 6), (⟨"AlarmDesk", "settle", "(I)I"⟩, 6), (⟨"AlarmDesk", "keepBefore", "()V"⟩, 6), (⟨"AlarmDesk$State", "endShelf", "(I)V"⟩, 9), (⟨"AlarmDesk$State", "isOnWayUp", "(II)Z"⟩, 9), (⟨"AlarmDesk$State", "whyHidden", "(I)I"⟩, 9), (⟨"AlarmDesk$State", "hasRootInAlarm", "(LAlarmDesk$Point;)Z"⟩, 9), (⟨"AlarmDesk$State", "isFlooded", "(LAlarmDesk$Point;)Z"⟩, 9), (⟨"AlarmDesk$State", "passTick", "()V"⟩, 9), (⟨"AlarmDesk$State", "movePoint", "(I)V"⟩, 9), (⟨"AlarmDesk$Point", "isClear", "(II)Z"⟩, 11), (⟨"AlarmDesk$Point", "isOver", "(I)Z"⟩, 11), (⟨"AlarmDesk$State", "activate", "(I)V"⟩, 9), (⟨"AlarmDesk$State", "lookAtFlood", "()V"⟩, 9), (⟨"AlarmDesk$State", "comesBefore", "(II)Z"⟩, 9), (⟨"AlarmDesk$Script", "readCommand", "(I)Z"⟩, 8)]
theorem lw_r1 : ∀ q ∈ lw_privs_1, lw_okq q := List.forall_mem_cons.mpr ⟨lw_p0, List.forall_mem_cons.mpr ⟨lw_p1, List.forall_mem_cons.mpr ⟨lw_p2, List.forall_mem_cons.mpr ⟨lw_p3, List.forall_mem_cons.mpr ⟨lw_p4, List.forall_mem_cons.mpr ⟨lw_p5, List.forall_mem_cons.mpr ⟨lw_p6, List.forall_mem_cons.mpr ⟨lw_p7, List.forall_mem_cons.mpr ⟨lw_p8, List.forall_mem_cons.mpr ⟨lw_p9, List.forall_mem_cons.mpr ⟨lw_p10, List.forall_mem_cons.mpr ⟨lw_p11, List.forall_mem_cons.mpr ⟨lw_p12, List.forall_mem_cons.mpr ⟨lw_p13, List.forall_mem_cons.mpr ⟨lw_p14, List.forall_mem_cons.mpr ⟨lw_p15, fun _ h => absurd h List.not_mem_nil⟩⟩⟩⟩⟩⟩⟩⟩⟩⟩⟩⟩⟩⟩⟩⟩
theorem lw_p16 : lw_okq (⟨"AlarmDesk$Script", "readWord", "()I"⟩, 8) := ⟨⟨by decide +kernel, by decide +kernel⟩, List.mem_of_getElem? (i := 23) (by decide +kernel), List.mem_of_getElem? (i := 570) (by decide +kernel), List.mem_of_getElem? (i := 571) (by decide +kernel)⟩
theorem lw_p17 : lw_okq (⟨"AlarmDesk$Script", "matchedSigns", "(Ljava/lang/String;)I"⟩, 8) := ⟨⟨by decide +kernel, by decide +kernel⟩, List.mem_of_getElem? (i := 23) (by decide +kernel), List.mem_of_getElem? (i := 582) (by decide +kernel), List.mem_of_getElem? (i := 583) (by decide +kernel)⟩
theorem lw_p18 : lw_okq (⟨"AlarmDesk$Script", "readNumber", "()Z"⟩, 8) := ⟨⟨by decide +kernel, by decide +kernel⟩, List.mem_of_getElem? (i := 23) (by decide +kernel), List.mem_of_getElem? (i := 637) (by decide +kernel), List.mem_of_getElem? (i := 638) (by decide +kernel)⟩
theorem lw_p19 : lw_okq (⟨"AlarmDesk$Script", "readSign", "(C)Z"⟩, 8) := ⟨⟨by decide +kernel, by decide +kernel⟩, List.mem_of_getElem? (i := 23) (by decide +kernel), List.mem_of_getElem? (i := 642) (by decide +kernel), List.mem_of_getElem? (i := 643) (by decide +kernel)⟩
theorem lw_p20 : lw_okq (⟨"AlarmDesk$Script", "readSecond", "(IZ)Z"⟩, 8) := ⟨⟨by decide +kernel, by decide +kernel⟩, List.mem_of_getElem? (i := 23) (by decide +kernel), List.mem_of_getElem? (i := 646) (by decide +kernel), List.mem_of_getElem? (i := 647) (by decide +kernel)⟩
theorem lw_p21 : lw_okq (⟨"AlarmDesk", "carryOut", "(I)I"⟩, 6) := ⟨⟨by decide +kernel, by decide +kernel⟩, List.mem_of_getElem? (i := 15) (by decide +kernel), List.mem_of_getElem? (i := 650) (by decide +kernel), List.mem_of_getElem? (i := 651) (by decide +kernel)⟩
theorem lw_p22 : lw_okq (⟨"AlarmDeskModel", "keeps", "([I)V"⟩, 11) := ⟨⟨by decide +kernel, by decide +kernel⟩, List.mem_of_getElem? (i := 670) (by decide +kernel), List.mem_of_getElem? (i := 720) (by decide +kernel), List.mem_of_getElem? (i := 721) (by decide +kernel)⟩
theorem lw_p23 : lw_okq (⟨"AlarmDeskModel", "puts", "(III)V"⟩, 11) := ⟨⟨by decide +kernel, by decide +kernel⟩, List.mem_of_getElem? (i := 670) (by decide +kernel), List.mem_of_getElem? (i := 724) (by decide +kernel), List.mem_of_getElem? (i := 725) (by decide +kernel)⟩
theorem lw_p24 : lw_okq (⟨"AlarmDeskModel", "isPoint", "(I)Z"⟩, 11) := ⟨⟨by decide +kernel, by decide +kernel⟩, List.mem_of_getElem? (i := 670) (by decide +kernel), List.mem_of_getElem? (i := 732) (by decide +kernel), List.mem_of_getElem? (i := 733) (by decide +kernel)⟩
theorem lw_p25 : lw_okq (⟨"AlarmDeskModel", "of", "(II)I"⟩, 11) := ⟨⟨by decide +kernel, by decide +kernel⟩, List.mem_of_getElem? (i := 670) (by decide +kernel), List.mem_of_getElem? (i := 739) (by decide +kernel), List.mem_of_getElem? (i := 740) (by decide +kernel)⟩
theorem lw_p26 : lw_okq (⟨"AlarmDeskModel", "leavesShelf", "(I)V"⟩, 11) := ⟨⟨by decide +kernel, by decide +kernel⟩, List.mem_of_getElem? (i := 670) (by decide +kernel), List.mem_of_getElem? (i := 743) (by decide +kernel), List.mem_of_getElem? (i := 744) (by decide +kernel)⟩
theorem lw_p27 : lw_okq (⟨"AlarmDeskModel", "happens", "(II)V"⟩, 11) := ⟨⟨by decide +kernel, by decide +kernel⟩, List.mem_of_getElem? (i := 670) (by decide +kernel), List.mem_of_getElem? (i := 747) (by decide +kernel), List.mem_of_getElem? (i := 748) (by decide +kernel)⟩
theorem lw_p28 : lw_okq (⟨"AlarmDeskModel", "values", "(II)I"⟩, 11) := ⟨⟨by decide +kernel, by decide +kernel⟩, List.mem_of_getElem? (i := 670) (by decide +kernel), List.mem_of_getElem? (i := 762) (by decide +kernel), List.mem_of_getElem? (i := 763) (by decide +kernel)⟩
theorem lw_p29 : lw_okq (⟨"AlarmDeskModel", "acts", "(I)I"⟩, 11) := ⟨⟨by decide +kernel, by decide +kernel⟩, List.mem_of_getElem? (i := 670) (by decide +kernel), List.mem_of_getElem? (i := 766) (by decide +kernel), List.mem_of_getElem? (i := 767) (by decide +kernel)⟩
theorem lw_p30 : lw_okq (⟨"AlarmDeskModel", "told", "(II)I"⟩, 11) := ⟨⟨by decide +kernel, by decide +kernel⟩, List.mem_of_getElem? (i := 670) (by decide +kernel), List.mem_of_getElem? (i := 774) (by decide +kernel), List.mem_of_getElem? (i := 775) (by decide +kernel)⟩
theorem lw_p31 : lw_okq (⟨"AlarmDeskModel", "why", "(I)I"⟩, 11) := ⟨⟨by decide +kernel, by decide +kernel⟩, List.mem_of_getElem? (i := 670) (by decide +kernel), List.mem_of_getElem? (i := 778) (by decide +kernel), List.mem_of_getElem? (i := 779) (by decide +kernel)⟩
def lw_privs_2 : List (MethodName × Nat) := [(⟨"AlarmDesk$Script", "readWord", "()I"⟩, 8), (⟨"AlarmDesk$Script", "matchedSigns", "(Ljava/lang/String;)I"⟩, 8), (⟨"AlarmDesk$Script", "readNumber", "()Z"⟩, 8), (⟨"AlarmDesk$Script", "readSign", "(C)Z"⟩, 8), (⟨"AlarmDesk$Script", "readSecond", "(IZ)Z"⟩, 8), (⟨"AlarmDesk", "carryOut", "(I)I"⟩, 6), (⟨"AlarmDeskModel", "keeps", "([I)V"⟩, 11), (⟨"AlarmDeskModel", "puts", "(III)V"⟩, 11), (⟨"AlarmDeskModel", "isPoint", "(I)Z"⟩, 11), (⟨"AlarmDeskModel", "of", "(II)I"⟩, 11), (⟨"AlarmDeskModel", "leavesShelf", "(I)V"⟩, 11), (⟨"AlarmDeskModel", "happens", "(II)V"⟩, 11), (⟨"AlarmDeskModel", "values", "(II)I"⟩, 11), (⟨"AlarmDeskModel", "acts", "(I)I"⟩, 11), (⟨"AlarmDeskModel", "told", "(II)I"⟩, 11), (⟨"AlarmDeskModel", "why", "(I)I"⟩, 11)]
theorem lw_r2 : ∀ q ∈ lw_privs_2, lw_okq q := List.forall_mem_cons.mpr ⟨lw_p16, List.forall_mem_cons.mpr ⟨lw_p17, List.forall_mem_cons.mpr ⟨lw_p18, List.forall_mem_cons.mpr ⟨lw_p19, List.forall_mem_cons.mpr ⟨lw_p20, List.forall_mem_cons.mpr ⟨lw_p21, List.forall_mem_cons.mpr ⟨lw_p22, List.forall_mem_cons.mpr ⟨lw_p23, List.forall_mem_cons.mpr ⟨lw_p24, List.forall_mem_cons.mpr ⟨lw_p25, List.forall_mem_cons.mpr ⟨lw_p26, List.forall_mem_cons.mpr ⟨lw_p27, List.forall_mem_cons.mpr ⟨lw_p28, List.forall_mem_cons.mpr ⟨lw_p29, List.forall_mem_cons.mpr ⟨lw_p30, List.forall_mem_cons.mpr ⟨lw_p31, fun _ h => absurd h List.not_mem_nil⟩⟩⟩⟩⟩⟩⟩⟩⟩⟩⟩⟩⟩⟩⟩⟩
theorem lw_p32 : lw_okq (⟨"AlarmDeskModel", "stands", "(I)Z"⟩, 11) := ⟨⟨by decide +kernel, by decide +kernel⟩, List.mem_of_getElem? (i := 670) (by decide +kernel), List.mem_of_getElem? (i := 782) (by decide +kernel), List.mem_of_getElem? (i := 783) (by decide +kernel)⟩
theorem lw_p33 : lw_okq (⟨"AlarmDeskModel", "hasRoot", "(I)Z"⟩, 11) := ⟨⟨by decide +kernel, by decide +kernel⟩, List.mem_of_getElem? (i := 670) (by decide +kernel), List.mem_of_getElem? (i := 786) (by decide +kernel), List.mem_of_getElem? (i := 787) (by decide +kernel)⟩
theorem lw_p34 : lw_okq (⟨"AlarmDeskModel", "states", "(I)I"⟩, 11) := ⟨⟨by decide +kernel, by decide +kernel⟩, List.mem_of_getElem? (i := 670) (by decide +kernel), List.mem_of_getElem? (i := 798) (by decide +kernel), List.mem_of_getElem? (i := 799) (by decide +kernel)⟩
theorem lw_p35 : lw_okq (⟨"AlarmDeskModel", "ticks", "(I)I"⟩, 11) := ⟨⟨by decide +kernel, by decide +kernel⟩, List.mem_of_getElem? (i := 670) (by decide +kernel), List.mem_of_getElem? (i := 810) (by decide +kernel), List.mem_of_getElem? (i := 811) (by decide +kernel)⟩
theorem lw_p36 : lw_okq (⟨"AlarmDeskModel", "ticksOnce", "()V"⟩, 11) := ⟨⟨by decide +kernel, by decide +kernel⟩, List.mem_of_getElem? (i := 670) (by decide +kernel), List.mem_of_getElem? (i := 814) (by decide +kernel), List.mem_of_getElem? (i := 815) (by decide +kernel)⟩
theorem lw_p37 : lw_okq (⟨"AlarmDeskModel", "looks", "(I)V"⟩, 11) := ⟨⟨by decide +kernel, by decide +kernel⟩, List.mem_of_getElem? (i := 670) (by decide +kernel), List.mem_of_getElem? (i := 818) (by decide +kernel), List.mem_of_getElem? (i := 819) (by decide +kernel)⟩
theorem lw_p38 : lw_okq (⟨"AlarmDeskModel", "rate", "()I"⟩, 11) := ⟨⟨by decide +kernel, by decide +kernel⟩, List.mem_of_getElem? (i := 670) (by decide +kernel), List.mem_of_getElem? (i := 828) (by decide +kernel), List.mem_of_getElem? (i := 829) (by decide +kernel)⟩
theorem lw_p39 : lw_okq (⟨"AlarmDeskModel", "acks", "(I)I"⟩, 11) := ⟨⟨by decide +kernel, by decide +kernel⟩, List.mem_of_getElem? (i := 670) (by decide +kernel), List.mem_of_getElem? (i := 840) (by decide +kernel), List.mem_of_getElem? (i := 841) (by decide +kernel)⟩
theorem lw_p40 : lw_okq (⟨"AlarmDeskModel", "lists", "()V"⟩, 11) := ⟨⟨by decide +kernel, by decide +kernel⟩, List.mem_of_getElem? (i := 670) (by decide +kernel), List.mem_of_getElem? (i := 848) (by decide +kernel), List.mem_of_getElem? (i := 849) (by decide +kernel)⟩
theorem lw_p41 : lw_okq (⟨"AlarmDeskModel", "isAhead", "(II)Z"⟩, 11) := ⟨⟨by decide +kernel, by decide +kernel⟩, List.mem_of_getElem? (i := 670) (by decide +kernel), List.mem_of_getElem? (i := 852) (by decide +kernel), List.mem_of_getElem? (i := 853) (by decide +kernel)⟩
theorem lw_p42 : lw_okq (⟨"AlarmDeskModel", "shelves", "(II)I"⟩, 11) := ⟨⟨by decide +kernel, by decide +kernel⟩, List.mem_of_getElem? (i := 670) (by decide +kernel), List.mem_of_getElem? (i := 860) (by decide +kernel), List.mem_of_getElem? (i := 861) (by decide +kernel)⟩
theorem lw_p43 : lw_okq (⟨"AlarmDeskModel", "counts", "(II)Z"⟩, 11) := ⟨⟨by decide +kernel, by decide +kernel⟩, List.mem_of_getElem? (i := 670) (by decide +kernel), List.mem_of_getElem? (i := 876) (by decide +kernel), List.mem_of_getElem? (i := 877) (by decide +kernel)⟩
theorem lw_p44 : lw_okq (⟨"AlarmDeskModel", "eventOf", "(II)I"⟩, 11) := ⟨⟨by decide +kernel, by decide +kernel⟩, List.mem_of_getElem? (i := 670) (by decide +kernel), List.mem_of_getElem? (i := 888) (by decide +kernel), List.mem_of_getElem? (i := 889) (by decide +kernel)⟩
theorem lw_p45 : lw_okq (⟨"AlarmDeskModel", "plays", "(II)I"⟩, 11) := ⟨⟨by decide +kernel, by decide +kernel⟩, List.mem_of_getElem? (i := 670) (by decide +kernel), List.mem_of_getElem? (i := 904) (by decide +kernel), List.mem_of_getElem? (i := 905) (by decide +kernel)⟩
theorem lw_p46 : lw_okq (⟨"AlarmDeskModel", "reads", "()Z"⟩, 11) := ⟨⟨by decide +kernel, by decide +kernel⟩, List.mem_of_getElem? (i := 670) (by decide +kernel), List.mem_of_getElem? (i := 924) (by decide +kernel), List.mem_of_getElem? (i := 925) (by decide +kernel)⟩
theorem lw_p47 : lw_okq (⟨"AlarmDeskModel", "readsCommand", "()Z"⟩, 11) := ⟨⟨by decide +kernel, by decide +kernel⟩, List.mem_of_getElem? (i := 670) (by decide +kernel), List.mem_of_getElem? (i := 928) (by decide +kernel), List.mem_of_getElem? (i := 929) (by decide +kernel)⟩
def lw_privs_3 : List (MethodName × Nat) := [(⟨"AlarmDeskModel", "stands", "(I)Z"⟩, 11), (⟨"AlarmDeskModel", "hasRoot", "(I)Z"⟩, 11), (⟨"AlarmDeskModel", "states", "(I)I"⟩, 11), (⟨"AlarmDeskModel", "ticks", "(I)I"⟩, 11), (⟨"AlarmDeskModel", "ticksOnce", "()V"⟩, 11), (⟨"AlarmDeskModel", "looks", "(I)V"⟩, 11), (⟨"AlarmDeskModel", "rate", "()I"⟩, 11), (⟨"AlarmDeskModel", "acks", "(I)I"⟩, 11), (⟨"AlarmDeskModel", "lists", "()V"⟩, 11), (⟨"AlarmDeskModel", "isAhead", "(II)Z"⟩, 11), (⟨"AlarmDeskModel", "shelves", "(II)I"⟩, 11), (⟨"AlarmDeskModel", "counts", "(II)Z"⟩, 11), (⟨"AlarmDeskModel", "eventOf", "(II)I"⟩, 11), (⟨"AlarmDeskModel", "plays", "(II)I"⟩, 11), (⟨"AlarmDeskModel", "reads", "()Z"⟩, 11), (⟨"AlarmDeskModel", "readsCommand", "()Z"⟩, 11)]
theorem lw_r3 : ∀ q ∈ lw_privs_3, lw_okq q := List.forall_mem_cons.mpr ⟨lw_p32, List.forall_mem_cons.mpr ⟨lw_p33, List.forall_mem_cons.mpr ⟨lw_p34, List.forall_mem_cons.mpr ⟨lw_p35, List.forall_mem_cons.mpr ⟨lw_p36, List.forall_mem_cons.mpr ⟨lw_p37, List.forall_mem_cons.mpr ⟨lw_p38, List.forall_mem_cons.mpr ⟨lw_p39, List.forall_mem_cons.mpr ⟨lw_p40, List.forall_mem_cons.mpr ⟨lw_p41, List.forall_mem_cons.mpr ⟨lw_p42, List.forall_mem_cons.mpr ⟨lw_p43, List.forall_mem_cons.mpr ⟨lw_p44, List.forall_mem_cons.mpr ⟨lw_p45, List.forall_mem_cons.mpr ⟨lw_p46, List.forall_mem_cons.mpr ⟨lw_p47, fun _ h => absurd h List.not_mem_nil⟩⟩⟩⟩⟩⟩⟩⟩⟩⟩⟩⟩⟩⟩⟩⟩
theorem lw_p48 : lw_okq (⟨"AlarmDeskModel", "word", "()Z"⟩, 11) := ⟨⟨by decide +kernel, by decide +kernel⟩, List.mem_of_getElem? (i := 670) (by decide +kernel), List.mem_of_getElem? (i := 932) (by decide +kernel), List.mem_of_getElem? (i := 933) (by decide +kernel)⟩
theorem lw_p49 : lw_okq (⟨"AlarmDeskModel", "sign", "()I"⟩, 11) := ⟨⟨by decide +kernel, by decide +kernel⟩, List.mem_of_getElem? (i := 670) (by decide +kernel), List.mem_of_getElem? (i := 936) (by decide +kernel), List.mem_of_getElem? (i := 937) (by decide +kernel)⟩
theorem lw_p50 : lw_okq (⟨"AlarmDeskModel", "three", "(III)Z"⟩, 11) := ⟨⟨by decide +kernel, by decide +kernel⟩, List.mem_of_getElem? (i := 670) (by decide +kernel), List.mem_of_getElem? (i := 940) (by decide +kernel), List.mem_of_getElem? (i := 941) (by decide +kernel)⟩
theorem lw_p51 : lw_okq (⟨"AlarmDeskModel", "takes", "(I)Z"⟩, 11) := ⟨⟨by decide +kernel, by decide +kernel⟩, List.mem_of_getElem? (i := 670) (by decide +kernel), List.mem_of_getElem? (i := 944) (by decide +kernel), List.mem_of_getElem? (i := 945) (by decide +kernel)⟩
theorem lw_p52 : lw_okq (⟨"AlarmDeskModel", "number", "(I)Z"⟩, 11) := ⟨⟨by decide +kernel, by decide +kernel⟩, List.mem_of_getElem? (i := 670) (by decide +kernel), List.mem_of_getElem? (i := 948) (by decide +kernel), List.mem_of_getElem? (i := 949) (by decide +kernel)⟩
theorem lw_p53 : lw_okq (⟨"AlarmDeskModel", "does", "(I)I"⟩, 11) := ⟨⟨by decide +kernel, by decide +kernel⟩, List.mem_of_getElem? (i := 670) (by decide +kernel), List.mem_of_getElem? (i := 952) (by decide +kernel), List.mem_of_getElem? (i := 953) (by decide +kernel)⟩
def lw_privs_4 : List (MethodName × Nat) := [(⟨"AlarmDeskModel", "word", "()Z"⟩, 11), (⟨"AlarmDeskModel", "sign", "()I"⟩, 11), (⟨"AlarmDeskModel", "three", "(III)Z"⟩, 11), (⟨"AlarmDeskModel", "takes", "(I)Z"⟩, 11), (⟨"AlarmDeskModel", "number", "(I)Z"⟩, 11), (⟨"AlarmDeskModel", "does", "(I)I"⟩, 11)]
theorem lw_r4 : ∀ q ∈ lw_privs_4, lw_okq q := List.forall_mem_cons.mpr ⟨lw_p48, List.forall_mem_cons.mpr ⟨lw_p49, List.forall_mem_cons.mpr ⟨lw_p50, List.forall_mem_cons.mpr ⟨lw_p51, List.forall_mem_cons.mpr ⟨lw_p52, List.forall_mem_cons.mpr ⟨lw_p53, fun _ h => absurd h List.not_mem_nil⟩⟩⟩⟩⟩⟩
def lw_privs : List (MethodName × Nat) := lw_privs_1 ++ (lw_privs_2 ++ (lw_privs_3 ++ (lw_privs_4)))
def lw_tbl : List Cond := k2_sels lw_privs ++ tables_1
theorem lw_privs_ok : ∀ q ∈ lw_privs, lw_okq q := by
  show ∀ q ∈ lw_privs_1 ++ (lw_privs_2 ++ (lw_privs_3 ++ (lw_privs_4))), lw_okq q
  exact List.forall_mem_append.mpr ⟨lw_r1, List.forall_mem_append.mpr ⟨lw_r2, List.forall_mem_append.mpr ⟨lw_r3, lw_r4⟩⟩⟩
/-- the streams that the claim lets the run draw from -/
abbrev lw_cs : List Choice := [Jvm.Choice.named "NaN.bits"]
theorem lw_bits : nanBits ∈ lw_cs := by first | decide | exact List.mem_cons_self | simp [lw_cs, nanBits]
end
section
def RX0 : String := "AlarmDesk$Flood"
def TX0 : u_T := fun k => match k with
  | 0 => ("AlarmDesk$Flood", "activationsAt", "[I", true)
  | 1 => ("AlarmDesk$Flood", "window", "I", false)
  | 2 => ("AlarmDesk$Flood", "high", "I", false)
  | 3 => ("AlarmDesk$Flood", "low", "I", false)
  | 4 => ("AlarmDesk$Flood", "on", "Z", false)
  | _ => ("AlarmDesk$Flood", "start", "I", false)
def tyX0 : Nat → FieldType := fun k => match k with
  | 0 => .array .int
  | 1 => .int
  | 2 => .int
  | 3 => .int
  | 4 => .boolean
  | _ => .int
abbrev wsX00 : List Cond := u_ws RX0 TX0 6
theorem nmX0 : ∀ a, a < 6 → ∀ b, b < 6 → a ≠ b → (TX0 a).2.1 ≠ (TX0 b).2.1 := by decide +kernel
theorem tyX0_ok : ∀ k, k < 6 → parseFieldDescriptor (TX0 k).2.2.1 = some (tyX0 k) := by decide +kernel
abbrev cX0_init : ByteArray := prog_2_method_1_code
def yX0_init : MethodName := ⟨RX0, "<init>", "()V"⟩
abbrev cX0_copyFrom : ByteArray := prog_2_method_2_code
def yX0_copyFrom : MethodName := ⟨RX0, "copyFrom", "(LAlarmDesk$Flood;)V"⟩
abbrev cX0_openTime : ByteArray := prog_2_method_3_code
def yX0_openTime : MethodName := ⟨RX0, "openTime", "(I)V"⟩
abbrev cX0_addActivation : ByteArray := prog_2_method_4_code
def yX0_addActivation : MethodName := ⟨RX0, "addActivation", "(I)V"⟩
abbrev cX0_rateAt : ByteArray := prog_2_method_5_code
def yX0_rateAt : MethodName := ⟨RX0, "rateAt", "(I)I"⟩
def RX1 : String := "AlarmDesk$Log"
def TX1 : u_T := fun k => match k with
  | 0 => ("AlarmDesk$Log", "times", "[I", true)
  | 1 => ("AlarmDesk$Log", "kinds", "[I", true)
  | 2 => ("AlarmDesk$Log", "owners", "[I", true)
  | _ => ("AlarmDesk$Log", "total", "I", false)
def tyX1 : Nat → FieldType := fun k => match k with
  | 0 => .array .int
  | 1 => .array .int
  | 2 => .array .int
  | _ => .int
abbrev wsX10 : List Cond := u_ws RX1 TX1 4
theorem nmX1 : ∀ a, a < 4 → ∀ b, b < 4 → a ≠ b → (TX1 a).2.1 ≠ (TX1 b).2.1 := by decide +kernel
theorem tyX1_ok : ∀ k, k < 4 → parseFieldDescriptor (TX1 k).2.2.1 = some (tyX1 k) := by decide +kernel
abbrev cX1_init : ByteArray := prog_3_method_1_code
def yX1_init : MethodName := ⟨RX1, "<init>", "()V"⟩
abbrev cX1_copyFrom : ByteArray := prog_3_method_2_code
def yX1_copyFrom : MethodName := ⟨RX1, "copyFrom", "(LAlarmDesk$Log;)V"⟩
abbrev cX1_write : ByteArray := prog_3_method_3_code
def yX1_write : MethodName := ⟨RX1, "write", "(III)V"⟩
abbrev cX1_kept : ByteArray := prog_3_method_4_code
def yX1_kept : MethodName := ⟨RX1, "kept", "()I"⟩
abbrev cX1_eventNumber : ByteArray := prog_3_method_5_code
def yX1_eventNumber : MethodName := ⟨RX1, "eventNumber", "(II)I"⟩
abbrev cX1_activationsOf : ByteArray := prog_3_method_6_code
def yX1_activationsOf : MethodName := ⟨RX1, "activationsOf", "(I)I"⟩
def RX2 : String := "AlarmDesk$Point"
def TX2 : u_T := fun k => match k with
  | 0 => ("AlarmDesk$Point", "settings", "[I", true)
  | 1 => ("AlarmDesk$Point", "values", "[I", true)
  | 2 => ("AlarmDesk$Point", "valuesPutDown", "I", false)
  | 3 => ("AlarmDesk$Point", "value", "I", false)
  | 4 => ("AlarmDesk$Point", "root", "I", false)
  | 5 => ("AlarmDesk$Point", "inAlarm", "Z", false)
  | 6 => ("AlarmDesk$Point", "acknowledged", "Z", false)
  | 7 => ("AlarmDesk$Point", "count", "I", false)
  | 8 => ("AlarmDesk$Point", "latest", "I", false)
  | 9 => ("AlarmDesk$Point", "shelfEnd", "I", false)
  | _ => ("AlarmDesk$Point", "activations", "I", false)
def tyX2 : Nat → FieldType := fun k => match k with
  | 0 => .array .int
  | 1 => .array .int
  | 2 => .int
  | 3 => .int
  | 4 => .int
  | 5 => .boolean
  | 6 => .boolean
  | 7 => .int
  | 8 => .int
  | 9 => .int
  | _ => .int
abbrev wsX20 : List Cond := u_ws RX2 TX2 11
theorem nmX2 : ∀ a, a < 11 → ∀ b, b < 11 → a ≠ b → (TX2 a).2.1 ≠ (TX2 b).2.1 := by decide +kernel
theorem tyX2_ok : ∀ k, k < 11 → parseFieldDescriptor (TX2 k).2.2.1 = some (tyX2 k) := by decide +kernel
abbrev cX2_init : ByteArray := prog_4_method_1_code
def yX2_init : MethodName := ⟨RX2, "<init>", "()V"⟩
abbrev cX2_begin : ByteArray := prog_4_method_2_code
def yX2_begin : MethodName := ⟨RX2, "begin", "(II)V"⟩
abbrev cX2_copyFrom : ByteArray := prog_4_method_3_code
def yX2_copyFrom : MethodName := ⟨RX2, "copyFrom", "(LAlarmDesk$Point;)V"⟩
abbrev cX2_stands : ByteArray := prog_4_method_4_code
def yX2_stands : MethodName := ⟨RX2, "stands", "()Z"⟩
abbrev cX2_isShelved : ByteArray := prog_4_method_5_code
def yX2_isShelved : MethodName := ⟨RX2, "isShelved", "()Z"⟩
abbrev cX2_hasHighestPriority : ByteArray := prog_4_method_6_code
def yX2_hasHighestPriority : MethodName := ⟨RX2, "hasHighestPriority", "()Z"⟩
abbrev cX2_isTurning : ByteArray := prog_4_method_7_code
def yX2_isTurning : MethodName := ⟨RX2, "isTurning", "()Z"⟩
abbrev cX2_delayOf : ByteArray := prog_4_method_8_code
def yX2_delayOf : MethodName := ⟨RX2, "delayOf", "(Z)I"⟩
abbrev cX2_isOver : ByteArray := prog_4_method_9_code
def yX2_isOver : MethodName := ⟨RX2, "isOver", "(I)Z"⟩
abbrev cX2_isClear : ByteArray := prog_4_method_10_code
def yX2_isClear : MethodName := ⟨RX2, "isClear", "(II)Z"⟩
abbrev cX2_putDownValue : ByteArray := prog_4_method_11_code
def yX2_putDownValue : MethodName := ⟨RX2, "putDownValue", "()V"⟩
abbrev cX2_ownNumber : ByteArray := prog_4_method_12_code
def yX2_ownNumber : MethodName := ⟨RX2, "ownNumber", "(I)I"⟩
abbrev cX2_alarmsWith : ByteArray := prog_4_method_13_code
def yX2_alarmsWith : MethodName := ⟨RX2, "alarmsWith", "(I)I"⟩
abbrev cX2_leastDeadbandFor : ByteArray := prog_4_method_14_code
def yX2_leastDeadbandFor : MethodName := ⟨RX2, "leastDeadbandFor", "(I)I"⟩
def RX3 : String := "AlarmDesk$Script"
def TX3 : u_T := fun k => match k with
  | 0 => ("AlarmDesk$Script", "text", "[C", true)
  | 1 => ("AlarmDesk$Script", "words", "[I", true)
  | 2 => ("AlarmDesk$Script", "firsts", "[I", true)
  | 3 => ("AlarmDesk$Script", "seconds", "[I", true)
  | 4 => ("AlarmDesk$Script", "length", "I", false)
  | 5 => ("AlarmDesk$Script", "commands", "I", false)
  | 6 => ("AlarmDesk$Script", "place", "I", false)
  | _ => ("AlarmDesk$Script", "readValue", "I", false)
def tyX3 : Nat → FieldType := fun k => match k with
  | 0 => .array .char
  | 1 => .array .int
  | 2 => .array .int
  | 3 => .array .int
  | 4 => .int
  | 5 => .int
  | 6 => .int
  | _ => .int
abbrev wsX30 : List Cond := u_ws RX3 TX3 8
theorem nmX3 : ∀ a, a < 8 → ∀ b, b < 8 → a ≠ b → (TX3 a).2.1 ≠ (TX3 b).2.1 := by decide +kernel
theorem tyX3_ok : ∀ k, k < 8 → parseFieldDescriptor (TX3 k).2.2.1 = some (tyX3 k) := by decide +kernel
abbrev cX3_init : ByteArray := prog_5_method_1_code
def yX3_init : MethodName := ⟨RX3, "<init>", "()V"⟩
abbrev cX3_append : ByteArray := prog_5_method_2_code
def yX3_append : MethodName := ⟨RX3, "append", "(C)I"⟩
abbrev cX3_discard : ByteArray := prog_5_method_3_code
def yX3_discard : MethodName := ⟨RX3, "discard", "()I"⟩
abbrev cX3_readCommands : ByteArray := prog_5_method_4_code
def yX3_readCommands : MethodName := ⟨RX3, "readCommands", "()Z"⟩
abbrev cX3_readCommand : ByteArray := prog_5_method_5_code
def yX3_readCommand : MethodName := ⟨RX3, "readCommand", "(I)Z"⟩
abbrev cX3_readSecond : ByteArray := prog_5_method_6_code
def yX3_readSecond : MethodName := ⟨RX3, "readSecond", "(IZ)Z"⟩
abbrev cX3_readWord : ByteArray := prog_5_method_7_code
def yX3_readWord : MethodName := ⟨RX3, "readWord", "()I"⟩
abbrev cX3_matchedSigns : ByteArray := prog_5_method_8_code
def yX3_matchedSigns : MethodName := ⟨RX3, "matchedSigns", "(Ljava/lang/String;)I"⟩
abbrev cX3_wordText : ByteArray := prog_5_method_9_code
def yX3_wordText : MethodName := ⟨RX3, "wordText", "(I)Ljava/lang/String;"⟩
abbrev cX3_readNumber : ByteArray := prog_5_method_10_code
def yX3_readNumber : MethodName := ⟨RX3, "readNumber", "()Z"⟩
abbrev cX3_readSign : ByteArray := prog_5_method_11_code
def yX3_readSign : MethodName := ⟨RX3, "readSign", "(C)Z"⟩
def RX4 : String := "AlarmDesk$State"
def TX4 : u_T := fun k => match k with
  | 0 => ("AlarmDesk$State", "points", "[LAlarmDesk$Point;", true)
  | 1 => ("AlarmDesk$State", "flood", "LAlarmDesk$Flood;", true)
  | 2 => ("AlarmDesk$State", "log", "LAlarmDesk$Log;", true)
  | 3 => ("AlarmDesk$State", "number", "I", false)
  | 4 => ("AlarmDesk$State", "time", "I", false)
  | 5 => ("AlarmDesk$State", "mode", "I", false)
  | 6 => ("AlarmDesk$State", "activations", "I", false)
  | 7 => ("AlarmDesk$State", "ackTicks", "I", false)
  | _ => ("AlarmDesk$State", "acknowledgements", "I", false)
def tyX4 : Nat → FieldType := fun k => match k with
  | 0 => .array (.object "AlarmDesk$Point")
  | 1 => .object "AlarmDesk$Flood"
  | 2 => .object "AlarmDesk$Log"
  | 3 => .int
  | 4 => .int
  | 5 => .int
  | 6 => .int
  | 7 => .int
  | _ => .int
abbrev wsX40 : List Cond := u_ws RX4 TX4 9
theorem nmX4 : ∀ a, a < 9 → ∀ b, b < 9 → a ≠ b → (TX4 a).2.1 ≠ (TX4 b).2.1 := by decide +kernel
theorem tyX4_ok : ∀ k, k < 9 → parseFieldDescriptor (TX4 k).2.2.1 = some (tyX4 k) := by decide +kernel
abbrev cX4_init : ByteArray := prog_6_method_1_code
def yX4_init : MethodName := ⟨RX4, "<init>", "()V"⟩
abbrev cX4_copyFrom : ByteArray := prog_6_method_2_code
def yX4_copyFrom : MethodName := ⟨RX4, "copyFrom", "(LAlarmDesk$State;)V"⟩
abbrev cX4_hasPoint : ByteArray := prog_6_method_3_code
def yX4_hasPoint : MethodName := ⟨RX4, "hasPoint", "(I)Z"⟩
abbrev cX4_addPoint : ByteArray := prog_6_method_4_code
def yX4_addPoint : MethodName := ⟨RX4, "addPoint", "(II)I"⟩
abbrev cX4_changeSetting : ByteArray := prog_6_method_5_code
def yX4_changeSetting : MethodName := ⟨RX4, "changeSetting", "(III)I"⟩
abbrev cX4_changeRoot : ByteArray := prog_6_method_6_code
def yX4_changeRoot : MethodName := ⟨RX4, "changeRoot", "(II)I"⟩
abbrev cX4_isOnWayUp : ByteArray := prog_6_method_7_code
def yX4_isOnWayUp : MethodName := ⟨RX4, "isOnWayUp", "(II)Z"⟩
abbrev cX4_changeValue : ByteArray := prog_6_method_8_code
def yX4_changeValue : MethodName := ⟨RX4, "changeValue", "(II)I"⟩
abbrev cX4_changeMode : ByteArray := prog_6_method_9_code
def yX4_changeMode : MethodName := ⟨RX4, "changeMode", "(I)I"⟩
abbrev cX4_changeFlood : ByteArray := prog_6_method_10_code
def yX4_changeFlood : MethodName := ⟨RX4, "changeFlood", "(III)I"⟩
abbrev cX4_passTicks : ByteArray := prog_6_method_11_code
def yX4_passTicks : MethodName := ⟨RX4, "passTicks", "(I)I"⟩
abbrev cX4_passTick : ByteArray := prog_6_method_12_code
def yX4_passTick : MethodName := ⟨RX4, "passTick", "()V"⟩
abbrev cX4_movePoint : ByteArray := prog_6_method_13_code
def yX4_movePoint : MethodName := ⟨RX4, "movePoint", "(I)V"⟩
abbrev cX4_activate : ByteArray := prog_6_method_14_code
def yX4_activate : MethodName := ⟨RX4, "activate", "(I)V"⟩
abbrev cX4_endShelf : ByteArray := prog_6_method_15_code
def yX4_endShelf : MethodName := ⟨RX4, "endShelf", "(I)V"⟩
abbrev cX4_lookAtFlood : ByteArray := prog_6_method_16_code
def yX4_lookAtFlood : MethodName := ⟨RX4, "lookAtFlood", "()V"⟩
abbrev cX4_acknowledge : ByteArray := prog_6_method_17_code
def yX4_acknowledge : MethodName := ⟨RX4, "acknowledge", "(I)I"⟩
abbrev cX4_putOnShelf : ByteArray := prog_6_method_18_code
def yX4_putOnShelf : MethodName := ⟨RX4, "putOnShelf", "(II)I"⟩
abbrev cX4_takeFromShelf : ByteArray := prog_6_method_19_code
def yX4_takeFromShelf : MethodName := ⟨RX4, "takeFromShelf", "(I)I"⟩
abbrev cX4_pointNumber : ByteArray := prog_6_method_20_code
def yX4_pointNumber : MethodName := ⟨RX4, "pointNumber", "(II)I"⟩
abbrev cX4_whyHidden : ByteArray := prog_6_method_21_code
def yX4_whyHidden : MethodName := ⟨RX4, "whyHidden", "(I)I"⟩
abbrev cX4_hasRootInAlarm : ByteArray := prog_6_method_22_code
def yX4_hasRootInAlarm : MethodName := ⟨RX4, "hasRootInAlarm", "(LAlarmDesk$Point;)Z"⟩
abbrev cX4_isFlooded : ByteArray := prog_6_method_23_code
def yX4_isFlooded : MethodName := ⟨RX4, "isFlooded", "(LAlarmDesk$Point;)Z"⟩
abbrev cX4_fillList : ByteArray := prog_6_method_24_code
def yX4_fillList : MethodName := ⟨RX4, "fillList", "([I)I"⟩
abbrev cX4_comesBefore : ByteArray := prog_6_method_25_code
def yX4_comesBefore : MethodName := ⟨RX4, "comesBefore", "(II)Z"⟩
abbrev cX4_isCounted : ByteArray := prog_6_method_26_code
def yX4_isCounted : MethodName := ⟨RX4, "isCounted", "(II)Z"⟩
def RX5 : String := "AlarmDesk"
def TX5 : u_T := fun k => match k with
  | 0 => ("AlarmDesk", "script", "LAlarmDesk$Script;", true)
  | 1 => ("AlarmDesk", "order", "[I", true)
  | 2 => ("AlarmDesk", "past", "[LAlarmDesk$State;", true)
  | 3 => ("AlarmDesk", "pastNumber", "I", false)
  | 4 => ("AlarmDesk", "now", "LAlarmDesk$State;", false)
  | _ => ("AlarmDesk", "before", "LAlarmDesk$State;", false)
def tyX5 : Nat → FieldType := fun k => match k with
  | 0 => .object "AlarmDesk$Script"
  | 1 => .array .int
  | 2 => .array (.object "AlarmDesk$State")
  | 3 => .int
  | 4 => .object "AlarmDesk$State"
  | _ => .object "AlarmDesk$State"
abbrev wsX50 : List Cond := u_ws RX5 TX5 6
theorem nmX5 : ∀ a, a < 6 → ∀ b, b < 6 → a ≠ b → (TX5 a).2.1 ≠ (TX5 b).2.1 := by decide +kernel
theorem tyX5_ok : ∀ k, k < 6 → parseFieldDescriptor (TX5 k).2.2.1 = some (tyX5 k) := by decide +kernel
abbrev cX5_init : ByteArray := prog_1_method_1_code
def yX5_init : MethodName := ⟨RX5, "<init>", "()V"⟩
abbrev cX5_add : ByteArray := prog_1_method_2_code
def yX5_add : MethodName := ⟨RX5, "add", "(II)I"⟩
abbrev cX5_set : ByteArray := prog_1_method_3_code
def yX5_set : MethodName := ⟨RX5, "set", "(III)I"⟩
abbrev cX5_setRoot : ByteArray := prog_1_method_4_code
def yX5_setRoot : MethodName := ⟨RX5, "setRoot", "(II)I"⟩
abbrev cX5_setValue : ByteArray := prog_1_method_5_code
def yX5_setValue : MethodName := ⟨RX5, "setValue", "(II)I"⟩
abbrev cX5_point : ByteArray := prog_1_method_6_code
def yX5_point : MethodName := ⟨RX5, "point", "(II)I"⟩
abbrev cX5_points : ByteArray := prog_1_method_7_code
def yX5_points : MethodName := ⟨RX5, "points", "()I"⟩
abbrev cX5_setState : ByteArray := prog_1_method_8_code
def yX5_setState : MethodName := ⟨RX5, "setState", "(I)I"⟩
abbrev cX5_setFlood : ByteArray := prog_1_method_9_code
def yX5_setFlood : MethodName := ⟨RX5, "setFlood", "(III)I"⟩
abbrev cX5_tick : ByteArray := prog_1_method_10_code
def yX5_tick : MethodName := ⟨RX5, "tick", "(I)I"⟩
abbrev cX5_plant : ByteArray := prog_1_method_11_code
def yX5_plant : MethodName := ⟨RX5, "plant", "(I)I"⟩
abbrev cX5_ack : ByteArray := prog_1_method_12_code
def yX5_ack : MethodName := ⟨RX5, "ack", "(I)I"⟩
abbrev cX5_ackAll : ByteArray := prog_1_method_13_code
def yX5_ackAll : MethodName := ⟨RX5, "ackAll", "()I"⟩
abbrev cX5_shelve : ByteArray := prog_1_method_14_code
def yX5_shelve : MethodName := ⟨RX5, "shelve", "(II)I"⟩
abbrev cX5_unshelve : ByteArray := prog_1_method_15_code
def yX5_unshelve : MethodName := ⟨RX5, "unshelve", "(I)I"⟩
abbrev cX5_list : ByteArray := prog_1_method_16_code
def yX5_list : MethodName := ⟨RX5, "list", "(I)I"⟩
abbrev cX5_count : ByteArray := prog_1_method_17_code
def yX5_count : MethodName := ⟨RX5, "count", "(I)I"⟩
abbrev cX5_events : ByteArray := prog_1_method_18_code
def yX5_events : MethodName := ⟨RX5, "events", "()I"⟩
abbrev cX5_event : ByteArray := prog_1_method_19_code
def yX5_event : MethodName := ⟨RX5, "event", "(II)I"⟩
abbrev cX5_meanAck : ByteArray := prog_1_method_20_code
def yX5_meanAck : MethodName := ⟨RX5, "meanAck", "()F"⟩
abbrev cX5_worst : ByteArray := prog_1_method_21_code
def yX5_worst : MethodName := ⟨RX5, "worst", "()I"⟩
abbrev cX5_replay : ByteArray := prog_1_method_22_code
def yX5_replay : MethodName := ⟨RX5, "replay", "(II)I"⟩
abbrev cX5_leastDeadband : ByteArray := prog_1_method_23_code
def yX5_leastDeadband : MethodName := ⟨RX5, "leastDeadband", "(II)I"⟩
abbrev cX5_type : ByteArray := prog_1_method_24_code
def yX5_type : MethodName := ⟨RX5, "type", "(I)I"⟩
abbrev cX5_clear : ByteArray := prog_1_method_25_code
def yX5_clear : MethodName := ⟨RX5, "clear", "()I"⟩
abbrev cX5_run : ByteArray := prog_1_method_26_code
def yX5_run : MethodName := ⟨RX5, "run", "()I"⟩
abbrev cX5_undo : ByteArray := prog_1_method_27_code
def yX5_undo : MethodName := ⟨RX5, "undo", "()I"⟩
abbrev cX5_fingerprint : ByteArray := prog_1_method_28_code
def yX5_fingerprint : MethodName := ⟨RX5, "fingerprint", "()J"⟩
abbrev cX5_isIn : ByteArray := prog_1_method_29_code
def yX5_isIn : MethodName := ⟨RX5, "isIn", "(III)Z"⟩
abbrev cX5_isError : ByteArray := prog_1_method_30_code
def yX5_isError : MethodName := ⟨RX5, "isError", "(I)Z"⟩
abbrev cX5_noteBefore : ByteArray := prog_1_method_31_code
def yX5_noteBefore : MethodName := ⟨RX5, "noteBefore", "()V"⟩
abbrev cX5_settle : ByteArray := prog_1_method_32_code
def yX5_settle : MethodName := ⟨RX5, "settle", "(I)I"⟩
abbrev cX5_keepBefore : ByteArray := prog_1_method_33_code
def yX5_keepBefore : MethodName := ⟨RX5, "keepBefore", "()V"⟩
abbrev cX5_carryOut : ByteArray := prog_1_method_34_code
def yX5_carryOut : MethodName := ⟨RX5, "carryOut", "(I)I"⟩
def RX6 : String := "AlarmDeskModel"
def TX6 : u_T := fun k => match k with
  | 0 => ("AlarmDeskModel", "v", "[I", true)
  | 1 => ("AlarmDeskModel", "aside", "[I", true)
  | 2 => ("AlarmDeskModel", "past", "[I", true)
  | 3 => ("AlarmDeskModel", "pastMany", "I", false)
  | 4 => ("AlarmDeskModel", "order", "[I", true)
  | 5 => ("AlarmDeskModel", "listed", "I", false)
  | 6 => ("AlarmDeskModel", "text", "[I", true)
  | 7 => ("AlarmDeskModel", "typed", "I", false)
  | 8 => ("AlarmDeskModel", "at", "I", false)
  | 9 => ("AlarmDeskModel", "found", "I", false)
  | _ => ("AlarmDeskModel", "commands", "[I", true)
def tyX6 : Nat → FieldType := fun k => match k with
  | 0 => .array .int
  | 1 => .array .int
  | 2 => .array .int
  | 3 => .int
  | 4 => .array .int
  | 5 => .int
  | 6 => .array .int
  | 7 => .int
  | 8 => .int
  | 9 => .int
  | _ => .array .int
abbrev wsX60 : List Cond := u_ws RX6 TX6 11
theorem nmX6 : ∀ a, a < 11 → ∀ b, b < 11 → a ≠ b → (TX6 a).2.1 ≠ (TX6 b).2.1 := by decide +kernel
theorem tyX6_ok : ∀ k, k < 11 → parseFieldDescriptor (TX6 k).2.2.1 = some (tyX6 k) := by decide +kernel
abbrev cX6_init : ByteArray := prog_8_method_1_code
def yX6_init : MethodName := ⟨RX6, "<init>", "()V"⟩
abbrev cX6_in : ByteArray := prog_8_method_2_code
def yX6_in : MethodName := ⟨RX6, "in", "(III)Z"⟩
abbrev cX6_keeps : ByteArray := prog_8_method_3_code
def yX6_keeps : MethodName := ⟨RX6, "keeps", "([I)V"⟩
abbrev cX6_copies : ByteArray := prog_8_method_4_code
def yX6_copies : MethodName := ⟨RX6, "copies", "([I[I)V"⟩
abbrev cX6_of : ByteArray := prog_8_method_5_code
def yX6_of : MethodName := ⟨RX6, "of", "(II)I"⟩
abbrev cX6_puts : ByteArray := prog_8_method_6_code
def yX6_puts : MethodName := ⟨RX6, "puts", "(III)V"⟩
abbrev cX6_isPoint : ByteArray := prog_8_method_7_code
def yX6_isPoint : MethodName := ⟨RX6, "isPoint", "(I)Z"⟩
abbrev cX6_isValue : ByteArray := prog_8_method_8_code
def yX6_isValue : MethodName := ⟨RX6, "isValue", "(I)Z"⟩
abbrev cX6_happens : ByteArray := prog_8_method_9_code
def yX6_happens : MethodName := ⟨RX6, "happens", "(II)V"⟩
abbrev cX6_add : ByteArray := prog_8_method_10_code
def yX6_add : MethodName := ⟨RX6, "add", "(II)I"⟩
abbrev cX6_isIn : ByteArray := prog_8_method_11_code
def yX6_isIn : MethodName := ⟨RX6, "isIn", "(II)Z"⟩
abbrev cX6_leavesShelf : ByteArray := prog_8_method_12_code
def yX6_leavesShelf : MethodName := ⟨RX6, "leavesShelf", "(I)V"⟩
abbrev cX6_set : ByteArray := prog_8_method_13_code
def yX6_set : MethodName := ⟨RX6, "set", "(III)I"⟩
abbrev cX6_setRoot : ByteArray := prog_8_method_14_code
def yX6_setRoot : MethodName := ⟨RX6, "setRoot", "(II)I"⟩
abbrev cX6_values : ByteArray := prog_8_method_15_code
def yX6_values : MethodName := ⟨RX6, "values", "(II)I"⟩
abbrev cX6_acts : ByteArray := prog_8_method_16_code
def yX6_acts : MethodName := ⟨RX6, "acts", "(I)I"⟩
abbrev cX6_setValue : ByteArray := prog_8_method_17_code
def yX6_setValue : MethodName := ⟨RX6, "setValue", "(II)I"⟩
abbrev cX6_stands : ByteArray := prog_8_method_18_code
def yX6_stands : MethodName := ⟨RX6, "stands", "(I)Z"⟩
abbrev cX6_hasRoot : ByteArray := prog_8_method_19_code
def yX6_hasRoot : MethodName := ⟨RX6, "hasRoot", "(I)Z"⟩
abbrev cX6_why : ByteArray := prog_8_method_20_code
def yX6_why : MethodName := ⟨RX6, "why", "(I)I"⟩
abbrev cX6_told : ByteArray := prog_8_method_21_code
def yX6_told : MethodName := ⟨RX6, "told", "(II)I"⟩
abbrev cX6_point : ByteArray := prog_8_method_22_code
def yX6_point : MethodName := ⟨RX6, "point", "(II)I"⟩
abbrev cX6_points : ByteArray := prog_8_method_23_code
def yX6_points : MethodName := ⟨RX6, "points", "()I"⟩
abbrev cX6_states : ByteArray := prog_8_method_24_code
def yX6_states : MethodName := ⟨RX6, "states", "(I)I"⟩
abbrev cX6_setState : ByteArray := prog_8_method_25_code
def yX6_setState : MethodName := ⟨RX6, "setState", "(I)I"⟩
abbrev cX6_setFlood : ByteArray := prog_8_method_26_code
def yX6_setFlood : MethodName := ⟨RX6, "setFlood", "(III)I"⟩
abbrev cX6_isOver : ByteArray := prog_8_method_27_code
def yX6_isOver : MethodName := ⟨RX6, "isOver", "(III)Z"⟩
abbrev cX6_isClear : ByteArray := prog_8_method_28_code
def yX6_isClear : MethodName := ⟨RX6, "isClear", "(IIII)Z"⟩
abbrev cX6_looks : ByteArray := prog_8_method_29_code
def yX6_looks : MethodName := ⟨RX6, "looks", "(I)V"⟩
abbrev cX6_rate : ByteArray := prog_8_method_30_code
def yX6_rate : MethodName := ⟨RX6, "rate", "()I"⟩
abbrev cX6_ticksOnce : ByteArray := prog_8_method_31_code
def yX6_ticksOnce : MethodName := ⟨RX6, "ticksOnce", "()V"⟩
abbrev cX6_ticks : ByteArray := prog_8_method_32_code
def yX6_ticks : MethodName := ⟨RX6, "ticks", "(I)I"⟩
abbrev cX6_tick : ByteArray := prog_8_method_33_code
def yX6_tick : MethodName := ⟨RX6, "tick", "(I)I"⟩
abbrev cX6_plant : ByteArray := prog_8_method_34_code
def yX6_plant : MethodName := ⟨RX6, "plant", "(I)I"⟩
abbrev cX6_acks : ByteArray := prog_8_method_35_code
def yX6_acks : MethodName := ⟨RX6, "acks", "(I)I"⟩
abbrev cX6_ack : ByteArray := prog_8_method_36_code
def yX6_ack : MethodName := ⟨RX6, "ack", "(I)I"⟩
abbrev cX6_isAhead : ByteArray := prog_8_method_37_code
def yX6_isAhead : MethodName := ⟨RX6, "isAhead", "(II)Z"⟩
abbrev cX6_lists : ByteArray := prog_8_method_38_code
def yX6_lists : MethodName := ⟨RX6, "lists", "()V"⟩
abbrev cX6_ackAll : ByteArray := prog_8_method_39_code
def yX6_ackAll : MethodName := ⟨RX6, "ackAll", "()I"⟩
abbrev cX6_shelves : ByteArray := prog_8_method_40_code
def yX6_shelves : MethodName := ⟨RX6, "shelves", "(II)I"⟩
abbrev cX6_shelve : ByteArray := prog_8_method_41_code
def yX6_shelve : MethodName := ⟨RX6, "shelve", "(II)I"⟩
abbrev cX6_unshelve : ByteArray := prog_8_method_42_code
def yX6_unshelve : MethodName := ⟨RX6, "unshelve", "(I)I"⟩
abbrev cX6_list : ByteArray := prog_8_method_43_code
def yX6_list : MethodName := ⟨RX6, "list", "(I)I"⟩
abbrev cX6_counts : ByteArray := prog_8_method_44_code
def yX6_counts : MethodName := ⟨RX6, "counts", "(II)Z"⟩
abbrev cX6_count : ByteArray := prog_8_method_45_code
def yX6_count : MethodName := ⟨RX6, "count", "(I)I"⟩
abbrev cX6_events : ByteArray := prog_8_method_46_code
def yX6_events : MethodName := ⟨RX6, "events", "()I"⟩
abbrev cX6_eventOf : ByteArray := prog_8_method_47_code
def yX6_eventOf : MethodName := ⟨RX6, "eventOf", "(II)I"⟩
abbrev cX6_event : ByteArray := prog_8_method_48_code
def yX6_event : MethodName := ⟨RX6, "event", "(II)I"⟩
abbrev cX6_meanAck : ByteArray := prog_8_method_49_code
def yX6_meanAck : MethodName := ⟨RX6, "meanAck", "()F"⟩
abbrev cX6_worst : ByteArray := prog_8_method_50_code
def yX6_worst : MethodName := ⟨RX6, "worst", "()I"⟩
abbrev cX6_plays : ByteArray := prog_8_method_51_code
def yX6_plays : MethodName := ⟨RX6, "plays", "(II)I"⟩
abbrev cX6_replay : ByteArray := prog_8_method_52_code
def yX6_replay : MethodName := ⟨RX6, "replay", "(II)I"⟩
abbrev cX6_leastDeadband : ByteArray := prog_8_method_53_code
def yX6_leastDeadband : MethodName := ⟨RX6, "leastDeadband", "(II)I"⟩
abbrev cX6_type : ByteArray := prog_8_method_54_code
def yX6_type : MethodName := ⟨RX6, "type", "(I)I"⟩
abbrev cX6_clear : ByteArray := prog_8_method_55_code
def yX6_clear : MethodName := ⟨RX6, "clear", "()I"⟩
abbrev cX6_sign : ByteArray := prog_8_method_56_code
def yX6_sign : MethodName := ⟨RX6, "sign", "()I"⟩
abbrev cX6_takes : ByteArray := prog_8_method_57_code
def yX6_takes : MethodName := ⟨RX6, "takes", "(I)Z"⟩
abbrev cX6_three : ByteArray := prog_8_method_58_code
def yX6_three : MethodName := ⟨RX6, "three", "(III)Z"⟩
abbrev cX6_number : ByteArray := prog_8_method_59_code
def yX6_number : MethodName := ⟨RX6, "number", "(I)Z"⟩
abbrev cX6_word : ByteArray := prog_8_method_60_code
def yX6_word : MethodName := ⟨RX6, "word", "()Z"⟩
abbrev cX6_readsCommand : ByteArray := prog_8_method_61_code
def yX6_readsCommand : MethodName := ⟨RX6, "readsCommand", "()Z"⟩
abbrev cX6_reads : ByteArray := prog_8_method_62_code
def yX6_reads : MethodName := ⟨RX6, "reads", "()Z"⟩
abbrev cX6_does : ByteArray := prog_8_method_63_code
def yX6_does : MethodName := ⟨RX6, "does", "(I)I"⟩
abbrev cX6_run : ByteArray := prog_8_method_64_code
def yX6_run : MethodName := ⟨RX6, "run", "()I"⟩
abbrev cX6_undo : ByteArray := prog_8_method_65_code
def yX6_undo : MethodName := ⟨RX6, "undo", "()I"⟩
abbrev cX6_fingerprint : ByteArray := prog_8_method_66_code
def yX6_fingerprint : MethodName := ⟨RX6, "fingerprint", "()J"⟩
def RJ9 : String := "java/lang/Math"
def TJ9 : u_T := fun k => match k with
  | _ => ("", "", "", false)
def tyJ9 : Nat → FieldType := fun k => match k with
  | _ => .int
abbrev wsJ90 : List Cond := u_ws RJ9 TJ9 0
theorem nmJ9 : ∀ a, a < 0 → ∀ b, b < 0 → a ≠ b → (TJ9 a).2.1 ≠ (TJ9 b).2.1 := by decide +kernel
theorem tyJ9_ok : ∀ k, k < 0 → parseFieldDescriptor (TJ9 k).2.2.1 = some (tyJ9 k) := by decide +kernel
abbrev cJ9_floorMod_7cf53 : ByteArray := prog_9_method_50_code
def yJ9_floorMod_7cf53 : MethodName := ⟨RJ9, "floorMod", "(II)I"⟩
abbrev cJ9_max_7cf53 : ByteArray := prog_9_method_65_code
def yJ9_max_7cf53 : MethodName := ⟨RJ9, "max", "(II)I"⟩
abbrev cJ9_min_7cf53 : ByteArray := prog_9_method_69_code
def yJ9_min_7cf53 : MethodName := ⟨RJ9, "min", "(II)I"⟩
def RJ0 : String := "java/lang/String"
def TJ0 : u_T := fun k => match k with
  | _ => ("", "", "", false)
def tyJ0 : Nat → FieldType := fun k => match k with
  | _ => .int
abbrev wsJ00 : List Cond := u_ws RJ0 TJ0 0
theorem nmJ0 : ∀ a, a < 0 → ∀ b, b < 0 → a ≠ b → (TJ0 a).2.1 ≠ (TJ0 b).2.1 := by decide +kernel
theorem tyJ0_ok : ∀ k, k < 0 → parseFieldDescriptor (TJ0 k).2.2.1 = some (tyJ0 k) := by decide +kernel
abbrev cJ0_length_8abf5 : ByteArray := prog_10_method_54_code
def yJ0_length_8abf5 : MethodName := ⟨RJ0, "length", "()I"⟩
abbrev cJ0_charAt_5068e : ByteArray := prog_10_method_56_code
def yJ0_charAt_5068e : MethodName := ⟨RJ0, "charAt", "(I)C"⟩
abbrev cJ0_coder_7d493 : ByteArray := prog_10_method_152_code
def yJ0_coder_7d493 : MethodName := ⟨RJ0, "coder", "()B"⟩
abbrev cJ0_isLatin1_aae02 : ByteArray := prog_10_method_154_code
def yJ0_isLatin1_aae02 : MethodName := ⟨RJ0, "isLatin1", "()Z"⟩
abbrev cJ0_checkIndex_df160 : ByteArray := prog_10_method_155_code
def yJ0_checkIndex_df160 : MethodName := ⟨RJ0, "checkIndex", "(II)V"⟩
def RJ1 : String := "java/lang/StringLatin1"
def TJ1 : u_T := fun k => match k with
  | _ => ("", "", "", false)
def tyJ1 : Nat → FieldType := fun k => match k with
  | _ => .int
abbrev wsJ10 : List Cond := u_ws RJ1 TJ1 0
theorem nmJ1 : ∀ a, a < 0 → ∀ b, b < 0 → a ≠ b → (TJ1 a).2.1 ≠ (TJ1 b).2.1 := by decide +kernel
theorem tyJ1_ok : ∀ k, k < 0 → parseFieldDescriptor (TJ1 k).2.2.1 = some (tyJ1 k) := by decide +kernel
abbrev cJ1_charAt_3b067 : ByteArray := prog_11_method_2_code
def yJ1_charAt_3b067 : MethodName := ⟨RJ1, "charAt", "([BI)C"⟩
def RJ2 : String := "java/lang/StringUTF16"
def TJ2 : u_T := fun k => match k with
  | _ => ("", "", "", false)
def tyJ2 : Nat → FieldType := fun k => match k with
  | _ => .int
abbrev wsJ20 : List Cond := u_ws RJ2 TJ2 0
theorem nmJ2 : ∀ a, a < 0 → ∀ b, b < 0 → a ≠ b → (TJ2 a).2.1 ≠ (TJ2 b).2.1 := by decide +kernel
theorem tyJ2_ok : ∀ k, k < 0 → parseFieldDescriptor (TJ2 k).2.2.1 = some (tyJ2 k) := by decide +kernel
abbrev cJ2_getChar_3b067 : ByteArray := prog_12_method_5_code
def yJ2_getChar_3b067 : MethodName := ⟨RJ2, "getChar", "([BI)C"⟩
abbrev cJ2_length_9d52b : ByteArray := prog_12_method_6_code
def yJ2_length_9d52b : MethodName := ⟨RJ2, "length", "([B)I"⟩
abbrev cJ2_charAt_3b067 : ByteArray := prog_12_method_83_code
def yJ2_charAt_3b067 : MethodName := ⟨RJ2, "charAt", "([BI)C"⟩
abbrev cJ2_checkIndex_2214a : ByteArray := prog_12_method_91_code
def yJ2_checkIndex_2214a : MethodName := ⟨RJ2, "checkIndex", "(I[B)V"⟩
def RJ10 : String := "java/lang/System"
def TJ10 : u_T := fun k => match k with
  | _ => ("", "", "", false)
def tyJ10 : Nat → FieldType := fun k => match k with
  | _ => .int
abbrev wsJ100 : List Cond := u_ws RJ10 TJ10 0
theorem nmJ10 : ∀ a, a < 0 → ∀ b, b < 0 → a ≠ b → (TJ10 a).2.1 ≠ (TJ10 b).2.1 := by decide +kernel
theorem tyJ10_ok : ∀ k, k < 0 → parseFieldDescriptor (TJ10 k).2.2.1 = some (tyJ10 k) := by decide +kernel
def RJ3 : String := "jdk/internal/util/Preconditions"
def TJ3 : u_T := fun k => match k with
  | _ => ("", "", "", false)
def tyJ3 : Nat → FieldType := fun k => match k with
  | _ => .int
abbrev wsJ30 : List Cond := u_ws RJ3 TJ3 0
theorem nmJ3 : ∀ a, a < 0 → ∀ b, b < 0 → a ≠ b → (TJ3 a).2.1 ≠ (TJ3 b).2.1 := by decide +kernel
theorem tyJ3_ok : ∀ k, k < 0 → parseFieldDescriptor (TJ3 k).2.2.1 = some (tyJ3 k) := by decide +kernel
abbrev cJ3_checkIndex_8e157 : ByteArray := prog_14_method_11_code
def yJ3_checkIndex_8e157 : MethodName := ⟨RJ3, "checkIndex", "(IILjava/util/function/BiFunction;)I"⟩
def RL : String := "AlarmDeskLaw"
abbrev cL_law : ByteArray := code
def yL_law : MethodName := ⟨RL, "law", "([I)Z"⟩
abbrev vwCl : List vw_C := [(RX0, TX0, 6), (RX1, TX1, 4), (RX2, TX2, 11), (RX3, TX3, 8), (RX4, TX4, 9), (RX5, TX5, 6), (RX6, TX6, 11)]
end
section
def jx_W : List Cond := lw_tbl.filter goodWord
theorem jx_t1 {w : Cond} (h : w ∈ tables_1) (g : goodWord w = true) : w ∈ jx_W := List.mem_filter.mpr ⟨List.mem_append_right _ h, g⟩
theorem jx_1 {w : Cond} (i : Nat) (h : tables_1_1[i]? = some w) (g : goodWord w = true) : w ∈ jx_W := jx_t1 (List.mem_append_left _ (List.mem_of_getElem? h)) g
theorem jx_2 {w : Cond} (i : Nat) (h : tables_1_2[i]? = some w) (g : goodWord w = true) : w ∈ jx_W := jx_t1 (List.mem_append_right _ (List.mem_append_left _ (List.mem_of_getElem? h))) g
theorem jx_3 {w : Cond} (i : Nat) (h : tables_1_3[i]? = some w) (g : goodWord w = true) : w ∈ jx_W := jx_t1 (List.mem_append_right _ (List.mem_append_right _ (List.mem_append_left _ (List.mem_of_getElem? h)))) g
theorem jx_4 {w : Cond} (i : Nat) (h : tables_1_4[i]? = some w) (g : goodWord w = true) : w ∈ jx_W := jx_t1 (List.mem_append_right _ (List.mem_append_right _ (List.mem_append_right _ (List.mem_append_left _ (List.mem_of_getElem? h))))) g
theorem jx_5 {w : Cond} (i : Nat) (h : tables_1_5[i]? = some w) (g : goodWord w = true) : w ∈ jx_W := jx_t1 (List.mem_append_right _ (List.mem_append_right _ (List.mem_append_right _ (List.mem_append_right _ (List.mem_of_getElem? h))))) g
theorem jx_s {w : Cond} (i : Nat) (h : (k2_sels lw_privs)[i]? = some w) (g : goodWord w = true) : w ∈ jx_W := List.mem_filter.mpr ⟨List.mem_append_left _ (List.mem_of_getElem? h), g⟩
theorem k_0 : Cond.initialized RL ∈ jx_W := jx_1 0 rfl rfl
theorem k_1 : Cond.initialized RX5 ∈ jx_W := jx_1 1 rfl rfl
theorem k_2 : Cond.initialized RX3 ∈ jx_W := jx_1 2 rfl rfl
theorem k_3 : Cond.initialized RX4 ∈ jx_W := jx_1 3 rfl rfl
theorem k_4 : Cond.initialized RX0 ∈ jx_W := jx_1 4 rfl rfl
theorem k_5 : Cond.initialized RX1 ∈ jx_W := jx_1 5 rfl rfl
theorem k_6 : Cond.initialized RX2 ∈ jx_W := jx_1 6 rfl rfl
theorem k_7 : Cond.initialized RX6 ∈ jx_W := jx_1 7 rfl rfl
theorem k_8 : Cond.initialized RJ10 ∈ jx_W := jx_1 8 rfl rfl
theorem k_9 : Cond.initialized RJ9 ∈ jx_W := jx_1 9 rfl rfl
theorem k_10 : Cond.initialized RJ0 ∈ jx_W := jx_1 10 rfl rfl
theorem k_11 : Cond.initialized RJ1 ∈ jx_W := jx_1 11 rfl rfl
theorem k_12 : Cond.initialized RJ3 ∈ jx_W := jx_1 12 rfl rfl
theorem k_13 : Cond.initialized RJ2 ∈ jx_W := jx_1 13 rfl rfl
theorem k_14 : Cond.classLink RL 7 RX5 ∈ jx_W := jx_1 14 rfl rfl
theorem k_15 : Cond.instantiable RX5 6 ∈ jx_W := jx_1 15 rfl rfl
theorem k_16 : Cond.methodLink RL 9 yX5_init ∈ jx_W := jx_1 16 rfl rfl
theorem k_17 : Cond.instanceMethod yX5_init ∈ jx_W := jx_1 17 rfl rfl
theorem k_18 : Cond.code yX5_init cX5_init 2 none ∈ jx_W := jx_1 18 rfl rfl
theorem k_19 : Cond.methodLink RX5 1 objectInit ∈ jx_W := jx_1 19 rfl rfl
theorem k_20 : Cond.instanceMethod objectInit ∈ jx_W := jx_1 20 rfl rfl
theorem k_21 : Cond.code objectInit ⟨#[0xb1]⟩ 1 none ∈ jx_W := jx_1 21 rfl rfl
theorem k_22 : Cond.classLink RX5 7 RX3 ∈ jx_W := jx_1 22 rfl rfl
theorem k_23 : Cond.instantiable RX3 8 ∈ jx_W := jx_1 23 rfl rfl
theorem k_24 : Cond.instanceMethod yX3_init ∈ jx_W := jx_1 25 rfl rfl
theorem k_25 : Cond.code yX3_init cX3_init 1 none ∈ jx_W := jx_1 26 rfl rfl
theorem k_26 : Cond.methodLink RX3 3 objectInit ∈ jx_W := jx_1 27 rfl rfl
theorem k_27 : Cond.fieldLink RX3 11 RX3 "text" "[C" ∈ jx_W := jx_1 28 rfl rfl
theorem k_28 : Cond.fieldLink RX3 15 RX3 "words" "[I" ∈ jx_W := jx_1 29 rfl rfl
theorem k_29 : Cond.fieldLink RX5 212 RX3 "words" "[I" ∈ jx_W := jx_1 30 rfl rfl
theorem k_30 : Cond.fieldLink RX3 19 RX3 "firsts" "[I" ∈ jx_W := jx_1 31 rfl rfl
theorem k_31 : Cond.fieldLink RX5 206 RX3 "firsts" "[I" ∈ jx_W := jx_1 32 rfl rfl
theorem k_32 : Cond.fieldLink RX3 22 RX3 "seconds" "[I" ∈ jx_W := jx_1 33 rfl rfl
theorem k_33 : Cond.fieldLink RX5 209 RX3 "seconds" "[I" ∈ jx_W := jx_1 34 rfl rfl
theorem k_34 : Cond.fieldLink RX3 25 RX3 "length" "I" ∈ jx_W := jx_1 35 rfl rfl
theorem k_35 : Cond.fieldLink RX3 32 RX3 "commands" "I" ∈ jx_W := jx_1 36 rfl rfl
theorem k_36 : Cond.fieldLink RX5 172 RX3 "commands" "I" ∈ jx_W := jx_1 37 rfl rfl
theorem k_37 : Cond.fieldLink RX3 29 RX3 "place" "I" ∈ jx_W := jx_1 38 rfl rfl
theorem k_38 : Cond.fieldLink RX5 169 RX3 "place" "I" ∈ jx_W := jx_1 39 rfl rfl
theorem k_39 : Cond.fieldLink RX3 51 RX3 "readValue" "I" ∈ jx_W := jx_1 40 rfl rfl
theorem k_40 : Cond.arrayClass .char ∈ jx_W := jx_1 58 rfl rfl
theorem k_41 : Cond.arrayClass .int ∈ jx_W := jx_1 59 rfl rfl
theorem k_42 : Cond.classLink RX5 20 RX4 ∈ jx_W := jx_1 60 rfl rfl
theorem k_43 : Cond.instantiable RX4 9 ∈ jx_W := jx_1 62 rfl rfl
theorem k_44 : Cond.methodLink RX5 26 yX4_init ∈ jx_W := jx_1 63 rfl rfl
theorem k_45 : Cond.instanceMethod yX4_init ∈ jx_W := jx_1 64 rfl rfl
theorem k_46 : Cond.code yX4_init cX4_init 2 none ∈ jx_W := jx_1 65 rfl rfl
theorem k_47 : Cond.methodLink RX4 3 objectInit ∈ jx_W := jx_1 66 rfl rfl
theorem k_48 : Cond.classLink RX4 9 RX2 ∈ jx_W := jx_1 67 rfl rfl
theorem k_49 : Cond.classLink RX4 17 RX0 ∈ jx_W := jx_1 69 rfl rfl
theorem k_50 : Cond.instantiable RX0 6 ∈ jx_W := jx_1 70 rfl rfl
theorem k_51 : Cond.instanceMethod yX0_init ∈ jx_W := jx_1 72 rfl rfl
theorem k_52 : Cond.code yX0_init cX0_init 1 none ∈ jx_W := jx_1 73 rfl rfl
theorem k_53 : Cond.methodLink RX0 3 objectInit ∈ jx_W := jx_1 74 rfl rfl
theorem k_54 : Cond.fieldLink RX0 9 RX0 "activationsAt" "[I" ∈ jx_W := jx_1 75 rfl rfl
theorem k_55 : Cond.fieldLink RX0 15 RX0 "window" "I" ∈ jx_W := jx_1 76 rfl rfl
theorem k_56 : Cond.fieldLink RX4 104 RX0 "window" "I" ∈ jx_W := jx_1 77 rfl rfl
theorem k_57 : Cond.fieldLink RX0 19 RX0 "high" "I" ∈ jx_W := jx_1 78 rfl rfl
theorem k_58 : Cond.fieldLink RX4 107 RX0 "high" "I" ∈ jx_W := jx_1 79 rfl rfl
theorem k_59 : Cond.fieldLink RX0 22 RX0 "low" "I" ∈ jx_W := jx_1 80 rfl rfl
theorem k_60 : Cond.fieldLink RX4 110 RX0 "low" "I" ∈ jx_W := jx_1 81 rfl rfl
theorem k_61 : Cond.fieldLink RX0 31 RX0 "on" "Z" ∈ jx_W := jx_1 82 rfl rfl
theorem k_62 : Cond.fieldLink RX5 89 RX0 "on" "Z" ∈ jx_W := jx_1 83 rfl rfl
theorem k_63 : Cond.fieldLink RX4 166 RX0 "on" "Z" ∈ jx_W := jx_1 84 rfl rfl
theorem k_64 : Cond.fieldLink RX0 35 RX0 "start" "I" ∈ jx_W := jx_1 85 rfl rfl
theorem k_65 : Cond.fieldLink RX4 169 RX0 "start" "I" ∈ jx_W := jx_1 86 rfl rfl
theorem k_66 : Cond.classLink RX4 24 RX1 ∈ jx_W := jx_1 100 rfl rfl
theorem k_67 : Cond.instantiable RX1 4 ∈ jx_W := jx_1 101 rfl rfl
theorem k_68 : Cond.instanceMethod yX1_init ∈ jx_W := jx_1 103 rfl rfl
theorem k_69 : Cond.code yX1_init cX1_init 1 none ∈ jx_W := jx_1 104 rfl rfl
theorem k_70 : Cond.methodLink RX1 3 objectInit ∈ jx_W := jx_1 105 rfl rfl
theorem k_71 : Cond.fieldLink RX1 9 RX1 "times" "[I" ∈ jx_W := jx_1 106 rfl rfl
theorem k_72 : Cond.fieldLink RX1 15 RX1 "kinds" "[I" ∈ jx_W := jx_1 107 rfl rfl
theorem k_73 : Cond.fieldLink RX1 18 RX1 "owners" "[I" ∈ jx_W := jx_1 108 rfl rfl
theorem k_74 : Cond.fieldLink RX1 27 RX1 "total" "I" ∈ jx_W := jx_1 109 rfl rfl
theorem k_75 : Cond.fieldLink RX5 125 RX1 "total" "I" ∈ jx_W := jx_1 110 rfl rfl
theorem k_76 : Cond.instantiable RX2 11 ∈ jx_W := jx_1 120 rfl rfl
theorem k_77 : Cond.instanceMethod yX2_init ∈ jx_W := jx_1 122 rfl rfl
theorem k_78 : Cond.code yX2_init cX2_init 1 none ∈ jx_W := jx_1 123 rfl rfl
theorem k_79 : Cond.methodLink RX2 3 objectInit ∈ jx_W := jx_1 124 rfl rfl
theorem k_80 : Cond.fieldLink RX2 9 RX2 "settings" "[I" ∈ jx_W := jx_1 125 rfl rfl
theorem k_81 : Cond.fieldLink RX4 80 RX2 "settings" "[I" ∈ jx_W := jx_1 126 rfl rfl
theorem k_82 : Cond.fieldLink RX2 15 RX2 "values" "[I" ∈ jx_W := jx_1 127 rfl rfl
theorem k_83 : Cond.fieldLink RX2 18 RX2 "valuesPutDown" "I" ∈ jx_W := jx_1 128 rfl rfl
theorem k_84 : Cond.fieldLink RX2 22 RX2 "value" "I" ∈ jx_W := jx_1 129 rfl rfl
theorem k_85 : Cond.fieldLink RX4 101 RX2 "value" "I" ∈ jx_W := jx_1 130 rfl rfl
theorem k_86 : Cond.fieldLink RX2 25 RX2 "root" "I" ∈ jx_W := jx_1 131 rfl rfl
theorem k_87 : Cond.fieldLink RX4 98 RX2 "root" "I" ∈ jx_W := jx_1 132 rfl rfl
theorem k_88 : Cond.fieldLink RX2 28 RX2 "inAlarm" "Z" ∈ jx_W := jx_1 133 rfl rfl
theorem k_89 : Cond.fieldLink RX4 137 RX2 "inAlarm" "Z" ∈ jx_W := jx_1 134 rfl rfl
theorem k_90 : Cond.fieldLink RX2 32 RX2 "acknowledged" "Z" ∈ jx_W := jx_1 135 rfl rfl
theorem k_91 : Cond.fieldLink RX4 152 RX2 "acknowledged" "Z" ∈ jx_W := jx_1 136 rfl rfl
theorem k_92 : Cond.fieldLink RX2 35 RX2 "count" "I" ∈ jx_W := jx_1 137 rfl rfl
theorem k_93 : Cond.fieldLink RX4 134 RX2 "count" "I" ∈ jx_W := jx_1 138 rfl rfl
theorem k_94 : Cond.fieldLink RX2 38 RX2 "latest" "I" ∈ jx_W := jx_1 139 rfl rfl
theorem k_95 : Cond.fieldLink RX4 155 RX2 "latest" "I" ∈ jx_W := jx_1 140 rfl rfl
theorem k_96 : Cond.fieldLink RX2 41 RX2 "shelfEnd" "I" ∈ jx_W := jx_1 141 rfl rfl
theorem k_97 : Cond.fieldLink RX4 122 RX2 "shelfEnd" "I" ∈ jx_W := jx_1 142 rfl rfl
theorem k_98 : Cond.fieldLink RX2 44 RX2 "activations" "I" ∈ jx_W := jx_1 143 rfl rfl
theorem k_99 : Cond.fieldLink RX4 158 RX2 "activations" "I" ∈ jx_W := jx_1 144 rfl rfl
theorem k_100 : Cond.fieldLink RX4 11 RX4 "points" "[LAlarmDesk$Point;" ∈ jx_W := jx_1 168 rfl rfl
theorem k_101 : Cond.fieldLink RX5 146 RX4 "points" "[LAlarmDesk$Point;" ∈ jx_W := jx_1 169 rfl rfl
theorem k_102 : Cond.fieldLink RX4 20 RX4 "flood" "LAlarmDesk$Flood;" ∈ jx_W := jx_1 170 rfl rfl
theorem k_103 : Cond.fieldLink RX5 85 RX4 "flood" "LAlarmDesk$Flood;" ∈ jx_W := jx_1 171 rfl rfl
theorem k_104 : Cond.fieldLink RX4 27 RX4 "log" "LAlarmDesk$Log;" ∈ jx_W := jx_1 172 rfl rfl
theorem k_105 : Cond.fieldLink RX5 121 RX4 "log" "LAlarmDesk$Log;" ∈ jx_W := jx_1 173 rfl rfl
theorem k_106 : Cond.fieldLink RX4 32 RX4 "number" "I" ∈ jx_W := jx_1 174 rfl rfl
theorem k_107 : Cond.fieldLink RX5 66 RX4 "number" "I" ∈ jx_W := jx_1 175 rfl rfl
theorem k_108 : Cond.fieldLink RX4 46 RX4 "time" "I" ∈ jx_W := jx_1 176 rfl rfl
theorem k_109 : Cond.fieldLink RX5 79 RX4 "time" "I" ∈ jx_W := jx_1 177 rfl rfl
theorem k_110 : Cond.fieldLink RX4 49 RX4 "mode" "I" ∈ jx_W := jx_1 178 rfl rfl
theorem k_111 : Cond.fieldLink RX5 82 RX4 "mode" "I" ∈ jx_W := jx_1 179 rfl rfl
theorem k_112 : Cond.fieldLink RX4 52 RX4 "activations" "I" ∈ jx_W := jx_1 180 rfl rfl
theorem k_113 : Cond.fieldLink RX5 98 RX4 "activations" "I" ∈ jx_W := jx_1 181 rfl rfl
theorem k_114 : Cond.fieldLink RX4 55 RX4 "ackTicks" "I" ∈ jx_W := jx_1 182 rfl rfl
theorem k_115 : Cond.fieldLink RX5 140 RX4 "ackTicks" "I" ∈ jx_W := jx_1 183 rfl rfl
theorem k_116 : Cond.fieldLink RX4 58 RX4 "acknowledgements" "I" ∈ jx_W := jx_1 184 rfl rfl
theorem k_117 : Cond.fieldLink RX5 137 RX4 "acknowledgements" "I" ∈ jx_W := jx_1 185 rfl rfl
theorem k_118 : Cond.fieldLink RX5 10 RX5 "script" "LAlarmDesk$Script;" ∈ jx_W := jx_1 205 rfl rfl
theorem k_119 : Cond.fieldLink RX5 16 RX5 "order" "[I" ∈ jx_W := jx_1 206 rfl rfl
theorem k_120 : Cond.fieldLink RX5 22 RX5 "past" "[LAlarmDesk$State;" ∈ jx_W := jx_1 207 rfl rfl
theorem k_121 : Cond.fieldLink RX5 182 RX5 "pastNumber" "I" ∈ jx_W := jx_1 208 rfl rfl
theorem k_122 : Cond.fieldLink RX5 27 RX5 "now" "LAlarmDesk$State;" ∈ jx_W := jx_1 209 rfl rfl
theorem k_123 : Cond.fieldLink RX5 31 RX5 "before" "LAlarmDesk$State;" ∈ jx_W := jx_1 210 rfl rfl
theorem k_124 : Cond.methodLink RL 13 yX5_add ∈ jx_W := jx_1 224 rfl rfl
theorem k_125 : Cond.instanceMethod yX5_add ∈ jx_W := jx_1 225 rfl rfl
theorem k_126 : Cond.selects RX5 yX5_add yX5_add ∈ jx_W := jx_1 226 rfl rfl
theorem k_127 : Cond.code yX5_add cX5_add 3 (some .int) ∈ jx_W := jx_1 227 rfl rfl
theorem k_128 : Cond.methodLink RX5 34 yX5_noteBefore ∈ jx_W := jx_1 228 rfl rfl
theorem k_129 : Cond.instanceMethod yX5_noteBefore ∈ jx_W := jx_1 230 rfl rfl
theorem k_130 : Cond.code yX5_noteBefore cX5_noteBefore 1 none ∈ jx_W := jx_1 231 rfl rfl
theorem k_131 : Cond.methodLink RX5 178 yX4_copyFrom ∈ jx_W := jx_1 232 rfl rfl
theorem k_132 : Cond.instanceMethod yX4_copyFrom ∈ jx_W := jx_1 233 rfl rfl
theorem k_133 : Cond.selects RX4 yX4_copyFrom yX4_copyFrom ∈ jx_W := jx_1 234 rfl rfl
theorem k_134 : Cond.code yX4_copyFrom cX4_copyFrom 3 none ∈ jx_W := jx_1 235 rfl rfl
theorem k_135 : Cond.methodLink RX4 36 yX2_copyFrom ∈ jx_W := jx_1 236 rfl rfl
theorem k_136 : Cond.instanceMethod yX2_copyFrom ∈ jx_W := jx_1 237 rfl rfl
theorem k_137 : Cond.selects RX2 yX2_copyFrom yX2_copyFrom ∈ jx_W := jx_1 238 rfl rfl
theorem k_138 : Cond.code yX2_copyFrom cX2_copyFrom 2 none ∈ jx_W := jx_1 239 rfl rfl
theorem k_139 : Cond.methodLink RX2 47 arraycopyName ∈ jx_W := jx_2 0 rfl rfl
theorem k_140 : Cond.static arraycopyName ∈ jx_W := jx_2 1 rfl rfl
theorem k_141 : Cond.native arraycopyName ∈ jx_W := jx_2 2 rfl rfl
theorem k_142 : Cond.methodLink RX4 40 yX0_copyFrom ∈ jx_W := jx_2 3 rfl rfl
theorem k_143 : Cond.instanceMethod yX0_copyFrom ∈ jx_W := jx_2 4 rfl rfl
theorem k_144 : Cond.selects RX0 yX0_copyFrom yX0_copyFrom ∈ jx_W := jx_2 5 rfl rfl
theorem k_145 : Cond.code yX0_copyFrom cX0_copyFrom 2 none ∈ jx_W := jx_2 6 rfl rfl
theorem k_146 : Cond.methodLink RX0 25 arraycopyName ∈ jx_W := jx_2 7 rfl rfl
theorem k_147 : Cond.methodLink RX4 43 yX1_copyFrom ∈ jx_W := jx_2 8 rfl rfl
theorem k_148 : Cond.instanceMethod yX1_copyFrom ∈ jx_W := jx_2 9 rfl rfl
theorem k_149 : Cond.selects RX1 yX1_copyFrom yX1_copyFrom ∈ jx_W := jx_2 10 rfl rfl
theorem k_150 : Cond.code yX1_copyFrom cX1_copyFrom 2 none ∈ jx_W := jx_2 11 rfl rfl
theorem k_151 : Cond.methodLink RX1 21 arraycopyName ∈ jx_W := jx_2 12 rfl rfl
theorem k_152 : Cond.methodLink RX5 37 yX4_addPoint ∈ jx_W := jx_2 13 rfl rfl
theorem k_153 : Cond.instanceMethod yX4_addPoint ∈ jx_W := jx_2 14 rfl rfl
theorem k_154 : Cond.selects RX4 yX4_addPoint yX4_addPoint ∈ jx_W := jx_2 15 rfl rfl
theorem k_155 : Cond.code yX4_addPoint cX4_addPoint 3 (some .int) ∈ jx_W := jx_2 16 rfl rfl
theorem k_156 : Cond.static yX5_isIn ∈ jx_W := jx_2 18 rfl rfl
theorem k_157 : Cond.code yX5_isIn cX5_isIn 3 (some .boolean) ∈ jx_W := jx_2 19 rfl rfl
theorem k_158 : Cond.methodLink RX4 65 yX2_begin ∈ jx_W := jx_2 20 rfl rfl
theorem k_159 : Cond.instanceMethod yX2_begin ∈ jx_W := jx_2 21 rfl rfl
theorem k_160 : Cond.selects RX2 yX2_begin yX2_begin ∈ jx_W := jx_2 22 rfl rfl
theorem k_161 : Cond.code yX2_begin cX2_begin 4 none ∈ jx_W := jx_2 23 rfl rfl
theorem k_162 : Cond.methodLink RX5 41 yX5_settle ∈ jx_W := jx_2 24 rfl rfl
theorem k_163 : Cond.instanceMethod yX5_settle ∈ jx_W := jx_2 26 rfl rfl
theorem k_164 : Cond.code yX5_settle cX5_settle 2 (some .int) ∈ jx_W := jx_2 27 rfl rfl
theorem k_165 : Cond.methodLink RX5 108 yX5_isError ∈ jx_W := jx_2 28 rfl rfl
theorem k_166 : Cond.static yX5_isError ∈ jx_W := jx_2 29 rfl rfl
theorem k_167 : Cond.code yX5_isError cX5_isError 1 (some .boolean) ∈ jx_W := jx_2 30 rfl rfl
theorem k_168 : Cond.methodLink RX5 203 yX5_keepBefore ∈ jx_W := jx_2 31 rfl rfl
theorem k_169 : Cond.instanceMethod yX5_keepBefore ∈ jx_W := jx_2 33 rfl rfl
theorem k_170 : Cond.code yX5_keepBefore cX5_keepBefore 3 none ∈ jx_W := jx_2 34 rfl rfl
theorem k_171 : Cond.methodLink RL 18 yX5_set ∈ jx_W := jx_2 35 rfl rfl
theorem k_172 : Cond.instanceMethod yX5_set ∈ jx_W := jx_2 36 rfl rfl
theorem k_173 : Cond.selects RX5 yX5_set yX5_set ∈ jx_W := jx_2 37 rfl rfl
theorem k_174 : Cond.code yX5_set cX5_set 4 (some .int) ∈ jx_W := jx_2 38 rfl rfl
theorem k_175 : Cond.methodLink RX5 45 yX4_changeSetting ∈ jx_W := jx_2 39 rfl rfl
theorem k_176 : Cond.instanceMethod yX4_changeSetting ∈ jx_W := jx_2 40 rfl rfl
theorem k_177 : Cond.selects RX4 yX4_changeSetting yX4_changeSetting ∈ jx_W := jx_2 41 rfl rfl
theorem k_178 : Cond.code yX4_changeSetting cX4_changeSetting 6 (some .int) ∈ jx_W := jx_2 42 rfl rfl
theorem k_179 : Cond.methodLink RX4 69 yX4_hasPoint ∈ jx_W := jx_2 43 rfl rfl
theorem k_180 : Cond.instanceMethod yX4_hasPoint ∈ jx_W := jx_2 44 rfl rfl
theorem k_181 : Cond.selects RX4 yX4_hasPoint yX4_hasPoint ∈ jx_W := jx_2 45 rfl rfl
theorem k_182 : Cond.code yX4_hasPoint cX4_hasPoint 2 (some .boolean) ∈ jx_W := jx_2 46 rfl rfl
theorem k_183 : Cond.methodLink RX4 83 yX2_hasHighestPriority ∈ jx_W := jx_2 51 rfl rfl
theorem k_184 : Cond.instanceMethod yX2_hasHighestPriority ∈ jx_W := jx_2 52 rfl rfl
theorem k_185 : Cond.selects RX2 yX2_hasHighestPriority yX2_hasHighestPriority ∈ jx_W := jx_2 53 rfl rfl
theorem k_186 : Cond.code yX2_hasHighestPriority cX2_hasHighestPriority 1 (some .boolean) ∈ jx_W := jx_2 54 rfl rfl
theorem k_187 : Cond.methodLink RX4 87 yX2_isShelved ∈ jx_W := jx_2 55 rfl rfl
theorem k_188 : Cond.instanceMethod yX2_isShelved ∈ jx_W := jx_2 56 rfl rfl
theorem k_189 : Cond.selects RX2 yX2_isShelved yX2_isShelved ∈ jx_W := jx_2 57 rfl rfl
theorem k_190 : Cond.code yX2_isShelved cX2_isShelved 1 (some .boolean) ∈ jx_W := jx_2 58 rfl rfl
theorem k_191 : Cond.methodLink RX4 90 yX4_endShelf ∈ jx_W := jx_2 59 rfl rfl
theorem k_192 : Cond.instanceMethod yX4_endShelf ∈ jx_W := jx_2 61 rfl rfl
theorem k_193 : Cond.code yX4_endShelf cX4_endShelf 2 none ∈ jx_W := jx_2 62 rfl rfl
theorem k_194 : Cond.methodLink RX4 145 yX1_write ∈ jx_W := jx_2 63 rfl rfl
theorem k_195 : Cond.instanceMethod yX1_write ∈ jx_W := jx_2 64 rfl rfl
theorem k_196 : Cond.selects RX1 yX1_write yX1_write ∈ jx_W := jx_2 65 rfl rfl
theorem k_197 : Cond.code yX1_write cX1_write 5 none ∈ jx_W := jx_2 66 rfl rfl
theorem k_198 : Cond.methodLink RX1 31 yJ9_floorMod_7cf53 ∈ jx_W := jx_2 67 rfl rfl
theorem k_199 : Cond.static yJ9_floorMod_7cf53 ∈ jx_W := jx_2 68 rfl rfl
theorem k_200 : Cond.code yJ9_floorMod_7cf53 cJ9_floorMod_7cf53 3 (some .int) ∈ jx_W := jx_2 69 rfl rfl
theorem k_201 : Cond.methodLink RL 23 yX5_setRoot ∈ jx_W := jx_2 70 rfl rfl
theorem k_202 : Cond.instanceMethod yX5_setRoot ∈ jx_W := jx_2 71 rfl rfl
theorem k_203 : Cond.selects RX5 yX5_setRoot yX5_setRoot ∈ jx_W := jx_2 72 rfl rfl
theorem k_204 : Cond.code yX5_setRoot cX5_setRoot 3 (some .int) ∈ jx_W := jx_2 73 rfl rfl
theorem k_205 : Cond.methodLink RX5 49 yX4_changeRoot ∈ jx_W := jx_2 74 rfl rfl
theorem k_206 : Cond.instanceMethod yX4_changeRoot ∈ jx_W := jx_2 75 rfl rfl
theorem k_207 : Cond.selects RX4 yX4_changeRoot yX4_changeRoot ∈ jx_W := jx_2 76 rfl rfl
theorem k_208 : Cond.code yX4_changeRoot cX4_changeRoot 4 (some .int) ∈ jx_W := jx_2 77 rfl rfl
theorem k_209 : Cond.methodLink RX4 94 yX4_isOnWayUp ∈ jx_W := jx_2 78 rfl rfl
theorem k_210 : Cond.instanceMethod yX4_isOnWayUp ∈ jx_W := jx_2 80 rfl rfl
theorem k_211 : Cond.code yX4_isOnWayUp cX4_isOnWayUp 5 (some .boolean) ∈ jx_W := jx_2 81 rfl rfl
theorem k_212 : Cond.methodLink RL 27 yX5_setValue ∈ jx_W := jx_2 82 rfl rfl
theorem k_213 : Cond.instanceMethod yX5_setValue ∈ jx_W := jx_2 83 rfl rfl
theorem k_214 : Cond.selects RX5 yX5_setValue yX5_setValue ∈ jx_W := jx_2 84 rfl rfl
theorem k_215 : Cond.code yX5_setValue cX5_setValue 3 (some .int) ∈ jx_W := jx_2 85 rfl rfl
theorem k_216 : Cond.methodLink RX5 52 yX4_changeValue ∈ jx_W := jx_2 86 rfl rfl
theorem k_217 : Cond.instanceMethod yX4_changeValue ∈ jx_W := jx_2 87 rfl rfl
theorem k_218 : Cond.selects RX4 yX4_changeValue yX4_changeValue ∈ jx_W := jx_2 88 rfl rfl
theorem k_219 : Cond.code yX4_changeValue cX4_changeValue 4 (some .int) ∈ jx_W := jx_2 89 rfl rfl
theorem k_220 : Cond.methodLink RL 31 yX5_point ∈ jx_W := jx_2 90 rfl rfl
theorem k_221 : Cond.instanceMethod yX5_point ∈ jx_W := jx_2 91 rfl rfl
theorem k_222 : Cond.selects RX5 yX5_point yX5_point ∈ jx_W := jx_2 92 rfl rfl
theorem k_223 : Cond.code yX5_point cX5_point 3 (some .int) ∈ jx_W := jx_2 93 rfl rfl
theorem k_224 : Cond.methodLink RX5 55 yX4_hasPoint ∈ jx_W := jx_2 94 rfl rfl
theorem k_225 : Cond.methodLink RX5 59 yX5_isIn ∈ jx_W := jx_2 95 rfl rfl
theorem k_226 : Cond.methodLink RX5 63 yX4_pointNumber ∈ jx_W := jx_2 96 rfl rfl
theorem k_227 : Cond.instanceMethod yX4_pointNumber ∈ jx_W := jx_2 97 rfl rfl
theorem k_228 : Cond.selects RX4 yX4_pointNumber yX4_pointNumber ∈ jx_W := jx_2 98 rfl rfl
theorem k_229 : Cond.code yX4_pointNumber cX4_pointNumber 3 (some .int) ∈ jx_W := jx_2 99 rfl rfl
theorem k_230 : Cond.methodLink RX4 172 yX4_whyHidden ∈ jx_W := jx_2 100 rfl rfl
theorem k_231 : Cond.instanceMethod yX4_whyHidden ∈ jx_W := jx_2 102 rfl rfl
theorem k_232 : Cond.code yX4_whyHidden cX4_whyHidden 3 (some .int) ∈ jx_W := jx_2 103 rfl rfl
theorem k_233 : Cond.methodLink RX4 178 yX2_stands ∈ jx_W := jx_2 104 rfl rfl
theorem k_234 : Cond.instanceMethod yX2_stands ∈ jx_W := jx_2 105 rfl rfl
theorem k_235 : Cond.selects RX2 yX2_stands yX2_stands ∈ jx_W := jx_2 106 rfl rfl
theorem k_236 : Cond.code yX2_stands cX2_stands 1 (some .boolean) ∈ jx_W := jx_2 107 rfl rfl
theorem k_237 : Cond.methodLink RX4 181 yX4_hasRootInAlarm ∈ jx_W := jx_2 108 rfl rfl
theorem k_238 : Cond.instanceMethod yX4_hasRootInAlarm ∈ jx_W := jx_2 110 rfl rfl
theorem k_239 : Cond.code yX4_hasRootInAlarm cX4_hasRootInAlarm 4 (some .boolean) ∈ jx_W := jx_2 111 rfl rfl
theorem k_240 : Cond.methodLink RX4 185 yX4_isFlooded ∈ jx_W := jx_2 112 rfl rfl
theorem k_241 : Cond.instanceMethod yX4_isFlooded ∈ jx_W := jx_2 114 rfl rfl
theorem k_242 : Cond.code yX4_isFlooded cX4_isFlooded 2 (some .boolean) ∈ jx_W := jx_2 115 rfl rfl
theorem k_243 : Cond.methodLink RX4 175 yX2_ownNumber ∈ jx_W := jx_2 116 rfl rfl
theorem k_244 : Cond.instanceMethod yX2_ownNumber ∈ jx_W := jx_2 117 rfl rfl
theorem k_245 : Cond.selects RX2 yX2_ownNumber yX2_ownNumber ∈ jx_W := jx_2 118 rfl rfl
theorem k_246 : Cond.code yX2_ownNumber cX2_ownNumber 2 (some .int) ∈ jx_W := jx_2 119 rfl rfl
theorem k_247 : Cond.methodLink RL 35 yX5_points ∈ jx_W := jx_2 121 rfl rfl
theorem k_248 : Cond.instanceMethod yX5_points ∈ jx_W := jx_2 122 rfl rfl
theorem k_249 : Cond.selects RX5 yX5_points yX5_points ∈ jx_W := jx_2 123 rfl rfl
theorem k_250 : Cond.code yX5_points cX5_points 1 (some .int) ∈ jx_W := jx_2 124 rfl rfl
theorem k_251 : Cond.methodLink RL 40 yX5_setState ∈ jx_W := jx_2 125 rfl rfl
theorem k_252 : Cond.instanceMethod yX5_setState ∈ jx_W := jx_2 126 rfl rfl
theorem k_253 : Cond.selects RX5 yX5_setState yX5_setState ∈ jx_W := jx_2 127 rfl rfl
theorem k_254 : Cond.code yX5_setState cX5_setState 2 (some .int) ∈ jx_W := jx_2 128 rfl rfl
theorem k_255 : Cond.methodLink RX5 70 yX4_changeMode ∈ jx_W := jx_2 129 rfl rfl
theorem k_256 : Cond.instanceMethod yX4_changeMode ∈ jx_W := jx_2 130 rfl rfl
theorem k_257 : Cond.selects RX4 yX4_changeMode yX4_changeMode ∈ jx_W := jx_2 131 rfl rfl
theorem k_258 : Cond.code yX4_changeMode cX4_changeMode 3 (some .int) ∈ jx_W := jx_2 132 rfl rfl
theorem k_259 : Cond.methodLink RL 45 yX5_setFlood ∈ jx_W := jx_2 133 rfl rfl
theorem k_260 : Cond.instanceMethod yX5_setFlood ∈ jx_W := jx_2 134 rfl rfl
theorem k_261 : Cond.selects RX5 yX5_setFlood yX5_setFlood ∈ jx_W := jx_2 135 rfl rfl
theorem k_262 : Cond.code yX5_setFlood cX5_setFlood 4 (some .int) ∈ jx_W := jx_2 136 rfl rfl
theorem k_263 : Cond.methodLink RX5 73 yX4_changeFlood ∈ jx_W := jx_2 137 rfl rfl
theorem k_264 : Cond.instanceMethod yX4_changeFlood ∈ jx_W := jx_2 138 rfl rfl
theorem k_265 : Cond.selects RX4 yX4_changeFlood yX4_changeFlood ∈ jx_W := jx_2 139 rfl rfl
theorem k_266 : Cond.code yX4_changeFlood cX4_changeFlood 5 (some .int) ∈ jx_W := jx_2 140 rfl rfl
theorem k_267 : Cond.methodLink RL 49 yX5_tick ∈ jx_W := jx_2 141 rfl rfl
theorem k_268 : Cond.instanceMethod yX5_tick ∈ jx_W := jx_2 142 rfl rfl
theorem k_269 : Cond.selects RX5 yX5_tick yX5_tick ∈ jx_W := jx_2 143 rfl rfl
theorem k_270 : Cond.code yX5_tick cX5_tick 2 (some .int) ∈ jx_W := jx_2 144 rfl rfl
theorem k_271 : Cond.methodLink RX5 76 yX4_passTicks ∈ jx_W := jx_2 145 rfl rfl
theorem k_272 : Cond.instanceMethod yX4_passTicks ∈ jx_W := jx_2 146 rfl rfl
theorem k_273 : Cond.selects RX4 yX4_passTicks yX4_passTicks ∈ jx_W := jx_2 147 rfl rfl
theorem k_274 : Cond.code yX4_passTicks cX4_passTicks 3 (some .int) ∈ jx_W := jx_2 148 rfl rfl
theorem k_275 : Cond.methodLink RX4 113 yX4_passTick ∈ jx_W := jx_2 149 rfl rfl
theorem k_276 : Cond.instanceMethod yX4_passTick ∈ jx_W := jx_2 151 rfl rfl
theorem k_277 : Cond.code yX4_passTick cX4_passTick 2 none ∈ jx_W := jx_2 152 rfl rfl
theorem k_278 : Cond.methodLink RX4 116 yX0_openTime ∈ jx_W := jx_2 153 rfl rfl
theorem k_279 : Cond.instanceMethod yX0_openTime ∈ jx_W := jx_2 154 rfl rfl
theorem k_280 : Cond.selects RX0 yX0_openTime yX0_openTime ∈ jx_W := jx_2 155 rfl rfl
theorem k_281 : Cond.code yX0_openTime cX0_openTime 2 none ∈ jx_W := jx_2 156 rfl rfl
theorem k_282 : Cond.methodLink RX0 38 yJ9_floorMod_7cf53 ∈ jx_W := jx_2 157 rfl rfl
theorem k_283 : Cond.methodLink RX4 119 yX4_movePoint ∈ jx_W := jx_2 158 rfl rfl
theorem k_284 : Cond.instanceMethod yX4_movePoint ∈ jx_W := jx_2 160 rfl rfl
theorem k_285 : Cond.code yX4_movePoint cX4_movePoint 3 none ∈ jx_W := jx_2 161 rfl rfl
theorem k_286 : Cond.methodLink RX4 131 yX2_isTurning ∈ jx_W := jx_2 162 rfl rfl
theorem k_287 : Cond.instanceMethod yX2_isTurning ∈ jx_W := jx_2 163 rfl rfl
theorem k_288 : Cond.selects RX2 yX2_isTurning yX2_isTurning ∈ jx_W := jx_2 164 rfl rfl
theorem k_289 : Cond.code yX2_isTurning cX2_isTurning 1 (some .boolean) ∈ jx_W := jx_2 165 rfl rfl
theorem k_290 : Cond.methodLink RX2 53 yX2_isClear ∈ jx_W := jx_2 166 rfl rfl
theorem k_291 : Cond.instanceMethod yX2_isClear ∈ jx_W := jx_2 168 rfl rfl
theorem k_292 : Cond.code yX2_isClear cX2_isClear 3 (some .boolean) ∈ jx_W := jx_2 169 rfl rfl
theorem k_293 : Cond.methodLink RX2 57 yX2_isOver ∈ jx_W := jx_2 170 rfl rfl
theorem k_294 : Cond.instanceMethod yX2_isOver ∈ jx_W := jx_2 172 rfl rfl
theorem k_295 : Cond.code yX2_isOver cX2_isOver 2 (some .boolean) ∈ jx_W := jx_2 173 rfl rfl
theorem k_296 : Cond.methodLink RX4 141 yX2_delayOf ∈ jx_W := jx_2 174 rfl rfl
theorem k_297 : Cond.instanceMethod yX2_delayOf ∈ jx_W := jx_2 175 rfl rfl
theorem k_298 : Cond.selects RX2 yX2_delayOf yX2_delayOf ∈ jx_W := jx_2 176 rfl rfl
theorem k_299 : Cond.code yX2_delayOf cX2_delayOf 2 (some .int) ∈ jx_W := jx_2 177 rfl rfl
theorem k_300 : Cond.methodLink RX4 149 yX4_activate ∈ jx_W := jx_2 178 rfl rfl
theorem k_301 : Cond.instanceMethod yX4_activate ∈ jx_W := jx_2 180 rfl rfl
theorem k_302 : Cond.code yX4_activate cX4_activate 3 none ∈ jx_W := jx_2 181 rfl rfl
theorem k_303 : Cond.methodLink RX4 159 yX0_addActivation ∈ jx_W := jx_2 182 rfl rfl
theorem k_304 : Cond.instanceMethod yX0_addActivation ∈ jx_W := jx_2 183 rfl rfl
theorem k_305 : Cond.selects RX0 yX0_addActivation yX0_addActivation ∈ jx_W := jx_2 184 rfl rfl
theorem k_306 : Cond.code yX0_addActivation cX0_addActivation 2 none ∈ jx_W := jx_2 185 rfl rfl
theorem k_307 : Cond.methodLink RX4 125 yX4_lookAtFlood ∈ jx_W := jx_2 186 rfl rfl
theorem k_308 : Cond.instanceMethod yX4_lookAtFlood ∈ jx_W := jx_2 188 rfl rfl
theorem k_309 : Cond.code yX4_lookAtFlood cX4_lookAtFlood 2 none ∈ jx_W := jx_2 189 rfl rfl
theorem k_310 : Cond.methodLink RX4 162 yX0_rateAt ∈ jx_W := jx_2 190 rfl rfl
theorem k_311 : Cond.instanceMethod yX0_rateAt ∈ jx_W := jx_2 191 rfl rfl
theorem k_312 : Cond.selects RX0 yX0_rateAt yX0_rateAt ∈ jx_W := jx_2 192 rfl rfl
theorem k_313 : Cond.code yX0_rateAt cX0_rateAt 4 (some .int) ∈ jx_W := jx_2 193 rfl rfl
theorem k_314 : Cond.methodLink RX4 128 yX2_putDownValue ∈ jx_W := jx_2 194 rfl rfl
theorem k_315 : Cond.instanceMethod yX2_putDownValue ∈ jx_W := jx_2 195 rfl rfl
theorem k_316 : Cond.selects RX2 yX2_putDownValue yX2_putDownValue ∈ jx_W := jx_2 196 rfl rfl
theorem k_317 : Cond.code yX2_putDownValue cX2_putDownValue 1 none ∈ jx_W := jx_2 197 rfl rfl
theorem k_318 : Cond.methodLink RL 53 yX5_plant ∈ jx_W := jx_2 198 rfl rfl
theorem k_319 : Cond.instanceMethod yX5_plant ∈ jx_W := jx_2 199 rfl rfl
theorem k_320 : Cond.selects RX5 yX5_plant yX5_plant ∈ jx_W := jx_2 200 rfl rfl
theorem k_321 : Cond.code yX5_plant cX5_plant 2 (some .int) ∈ jx_W := jx_2 201 rfl rfl
theorem k_322 : Cond.methodLink RX5 95 yX0_rateAt ∈ jx_W := jx_2 202 rfl rfl
theorem k_323 : Cond.methodLink RL 57 yX5_ack ∈ jx_W := jx_2 203 rfl rfl
theorem k_324 : Cond.instanceMethod yX5_ack ∈ jx_W := jx_2 204 rfl rfl
theorem k_325 : Cond.selects RX5 yX5_ack yX5_ack ∈ jx_W := jx_2 205 rfl rfl
theorem k_326 : Cond.code yX5_ack cX5_ack 2 (some .int) ∈ jx_W := jx_2 206 rfl rfl
theorem k_327 : Cond.methodLink RX5 101 yX4_acknowledge ∈ jx_W := jx_2 207 rfl rfl
theorem k_328 : Cond.instanceMethod yX4_acknowledge ∈ jx_W := jx_2 208 rfl rfl
theorem k_329 : Cond.selects RX4 yX4_acknowledge yX4_acknowledge ∈ jx_W := jx_2 209 rfl rfl
theorem k_330 : Cond.code yX4_acknowledge cX4_acknowledge 4 (some .int) ∈ jx_W := jx_2 210 rfl rfl
theorem k_331 : Cond.methodLink RL 61 yX5_ackAll ∈ jx_W := jx_2 211 rfl rfl
theorem k_332 : Cond.instanceMethod yX5_ackAll ∈ jx_W := jx_2 212 rfl rfl
theorem k_333 : Cond.selects RX5 yX5_ackAll yX5_ackAll ∈ jx_W := jx_2 213 rfl rfl
theorem k_334 : Cond.code yX5_ackAll cX5_ackAll 4 (some .int) ∈ jx_W := jx_2 214 rfl rfl
theorem k_335 : Cond.methodLink RX5 104 yX4_fillList ∈ jx_W := jx_2 215 rfl rfl
theorem k_336 : Cond.instanceMethod yX4_fillList ∈ jx_W := jx_2 216 rfl rfl
theorem k_337 : Cond.selects RX4 yX4_fillList yX4_fillList ∈ jx_W := jx_2 217 rfl rfl
theorem k_338 : Cond.code yX4_fillList cX4_fillList 5 (some .int) ∈ jx_W := jx_2 218 rfl rfl
theorem k_339 : Cond.methodLink RX4 188 yX4_comesBefore ∈ jx_W := jx_2 219 rfl rfl
theorem k_340 : Cond.instanceMethod yX4_comesBefore ∈ jx_W := jx_2 221 rfl rfl
theorem k_341 : Cond.code yX4_comesBefore cX4_comesBefore 5 (some .boolean) ∈ jx_W := jx_2 222 rfl rfl
theorem k_342 : Cond.methodLink RL 65 yX5_shelve ∈ jx_W := jx_2 223 rfl rfl
theorem k_343 : Cond.instanceMethod yX5_shelve ∈ jx_W := jx_2 224 rfl rfl
theorem k_344 : Cond.selects RX5 yX5_shelve yX5_shelve ∈ jx_W := jx_2 225 rfl rfl
theorem k_345 : Cond.code yX5_shelve cX5_shelve 3 (some .int) ∈ jx_W := jx_2 226 rfl rfl
theorem k_346 : Cond.methodLink RX5 111 yX4_putOnShelf ∈ jx_W := jx_2 227 rfl rfl
theorem k_347 : Cond.instanceMethod yX4_putOnShelf ∈ jx_W := jx_2 228 rfl rfl
theorem k_348 : Cond.selects RX4 yX4_putOnShelf yX4_putOnShelf ∈ jx_W := jx_2 229 rfl rfl
theorem k_349 : Cond.code yX4_putOnShelf cX4_putOnShelf 3 (some .int) ∈ jx_W := jx_2 230 rfl rfl
theorem k_350 : Cond.methodLink RL 69 yX5_unshelve ∈ jx_W := jx_2 231 rfl rfl
theorem k_351 : Cond.instanceMethod yX5_unshelve ∈ jx_W := jx_2 232 rfl rfl
theorem k_352 : Cond.selects RX5 yX5_unshelve yX5_unshelve ∈ jx_W := jx_2 233 rfl rfl
theorem k_353 : Cond.code yX5_unshelve cX5_unshelve 2 (some .int) ∈ jx_W := jx_2 234 rfl rfl
theorem k_354 : Cond.methodLink RX5 114 yX4_takeFromShelf ∈ jx_W := jx_2 235 rfl rfl
theorem k_355 : Cond.instanceMethod yX4_takeFromShelf ∈ jx_W := jx_2 236 rfl rfl
theorem k_356 : Cond.selects RX4 yX4_takeFromShelf yX4_takeFromShelf ∈ jx_W := jx_2 237 rfl rfl
theorem k_357 : Cond.code yX4_takeFromShelf cX4_takeFromShelf 3 (some .int) ∈ jx_W := jx_2 238 rfl rfl
theorem k_358 : Cond.methodLink RL 73 yX5_list ∈ jx_W := jx_2 239 rfl rfl
theorem k_359 : Cond.instanceMethod yX5_list ∈ jx_W := jx_3 0 rfl rfl
theorem k_360 : Cond.selects RX5 yX5_list yX5_list ∈ jx_W := jx_3 1 rfl rfl
theorem k_361 : Cond.code yX5_list cX5_list 3 (some .int) ∈ jx_W := jx_3 2 rfl rfl
theorem k_362 : Cond.methodLink RL 77 yX5_count ∈ jx_W := jx_3 3 rfl rfl
theorem k_363 : Cond.instanceMethod yX5_count ∈ jx_W := jx_3 4 rfl rfl
theorem k_364 : Cond.selects RX5 yX5_count yX5_count ∈ jx_W := jx_3 5 rfl rfl
theorem k_365 : Cond.code yX5_count cX5_count 4 (some .int) ∈ jx_W := jx_3 6 rfl rfl
theorem k_366 : Cond.methodLink RX5 117 yX4_isCounted ∈ jx_W := jx_3 7 rfl rfl
theorem k_367 : Cond.instanceMethod yX4_isCounted ∈ jx_W := jx_3 8 rfl rfl
theorem k_368 : Cond.selects RX4 yX4_isCounted yX4_isCounted ∈ jx_W := jx_3 9 rfl rfl
theorem k_369 : Cond.code yX4_isCounted cX4_isCounted 3 (some .boolean) ∈ jx_W := jx_3 10 rfl rfl
theorem k_370 : Cond.methodLink RL 81 yX5_events ∈ jx_W := jx_3 11 rfl rfl
theorem k_371 : Cond.instanceMethod yX5_events ∈ jx_W := jx_3 12 rfl rfl
theorem k_372 : Cond.selects RX5 yX5_events yX5_events ∈ jx_W := jx_3 13 rfl rfl
theorem k_373 : Cond.code yX5_events cX5_events 1 (some .int) ∈ jx_W := jx_3 14 rfl rfl
theorem k_374 : Cond.methodLink RL 85 yX5_event ∈ jx_W := jx_3 15 rfl rfl
theorem k_375 : Cond.instanceMethod yX5_event ∈ jx_W := jx_3 16 rfl rfl
theorem k_376 : Cond.selects RX5 yX5_event yX5_event ∈ jx_W := jx_3 17 rfl rfl
theorem k_377 : Cond.code yX5_event cX5_event 3 (some .int) ∈ jx_W := jx_3 18 rfl rfl
theorem k_378 : Cond.methodLink RX5 130 yX1_kept ∈ jx_W := jx_3 19 rfl rfl
theorem k_379 : Cond.instanceMethod yX1_kept ∈ jx_W := jx_3 20 rfl rfl
theorem k_380 : Cond.selects RX1 yX1_kept yX1_kept ∈ jx_W := jx_3 21 rfl rfl
theorem k_381 : Cond.code yX1_kept cX1_kept 1 (some .int) ∈ jx_W := jx_3 22 rfl rfl
theorem k_382 : Cond.methodLink RX1 37 yJ9_min_7cf53 ∈ jx_W := jx_3 23 rfl rfl
theorem k_383 : Cond.static yJ9_min_7cf53 ∈ jx_W := jx_3 24 rfl rfl
theorem k_384 : Cond.code yJ9_min_7cf53 cJ9_min_7cf53 2 (some .int) ∈ jx_W := jx_3 25 rfl rfl
theorem k_385 : Cond.methodLink RX5 134 yX1_eventNumber ∈ jx_W := jx_3 26 rfl rfl
theorem k_386 : Cond.instanceMethod yX1_eventNumber ∈ jx_W := jx_3 27 rfl rfl
theorem k_387 : Cond.selects RX1 yX1_eventNumber yX1_eventNumber ∈ jx_W := jx_3 28 rfl rfl
theorem k_388 : Cond.code yX1_eventNumber cX1_eventNumber 4 (some .int) ∈ jx_W := jx_3 29 rfl rfl
theorem k_389 : Cond.methodLink RL 89 yX5_meanAck ∈ jx_W := jx_3 30 rfl rfl
theorem k_390 : Cond.instanceMethod yX5_meanAck ∈ jx_W := jx_3 31 rfl rfl
theorem k_391 : Cond.selects RX5 yX5_meanAck yX5_meanAck ∈ jx_W := jx_3 32 rfl rfl
theorem k_392 : Cond.code yX5_meanAck cX5_meanAck 1 (some .float) ∈ jx_W := jx_3 33 rfl rfl
theorem k_393 : Cond.methodLink RL 94 yX5_worst ∈ jx_W := jx_3 34 rfl rfl
theorem k_394 : Cond.instanceMethod yX5_worst ∈ jx_W := jx_3 35 rfl rfl
theorem k_395 : Cond.selects RX5 yX5_worst yX5_worst ∈ jx_W := jx_3 36 rfl rfl
theorem k_396 : Cond.code yX5_worst cX5_worst 5 (some .int) ∈ jx_W := jx_3 37 rfl rfl
theorem k_397 : Cond.methodLink RX5 143 yX1_activationsOf ∈ jx_W := jx_3 38 rfl rfl
theorem k_398 : Cond.instanceMethod yX1_activationsOf ∈ jx_W := jx_3 39 rfl rfl
theorem k_399 : Cond.selects RX1 yX1_activationsOf yX1_activationsOf ∈ jx_W := jx_3 40 rfl rfl
theorem k_400 : Cond.code yX1_activationsOf cX1_activationsOf 4 (some .int) ∈ jx_W := jx_3 41 rfl rfl
theorem k_401 : Cond.methodLink RX1 40 yX1_kept ∈ jx_W := jx_3 42 rfl rfl
theorem k_402 : Cond.methodLink RL 98 yX5_replay ∈ jx_W := jx_3 43 rfl rfl
theorem k_403 : Cond.instanceMethod yX5_replay ∈ jx_W := jx_3 44 rfl rfl
theorem k_404 : Cond.selects RX5 yX5_replay yX5_replay ∈ jx_W := jx_3 45 rfl rfl
theorem k_405 : Cond.code yX5_replay cX5_replay 3 (some .int) ∈ jx_W := jx_3 46 rfl rfl
theorem k_406 : Cond.methodLink RX5 150 yX2_alarmsWith ∈ jx_W := jx_3 47 rfl rfl
theorem k_407 : Cond.instanceMethod yX2_alarmsWith ∈ jx_W := jx_3 48 rfl rfl
theorem k_408 : Cond.selects RX2 yX2_alarmsWith yX2_alarmsWith ∈ jx_W := jx_3 49 rfl rfl
theorem k_409 : Cond.code yX2_alarmsWith cX2_alarmsWith 9 (some .int) ∈ jx_W := jx_3 50 rfl rfl
theorem k_410 : Cond.methodLink RX2 65 yX2_delayOf ∈ jx_W := jx_3 51 rfl rfl
theorem k_411 : Cond.methodLink RL 102 yX5_leastDeadband ∈ jx_W := jx_3 52 rfl rfl
theorem k_412 : Cond.instanceMethod yX5_leastDeadband ∈ jx_W := jx_3 53 rfl rfl
theorem k_413 : Cond.selects RX5 yX5_leastDeadband yX5_leastDeadband ∈ jx_W := jx_3 54 rfl rfl
theorem k_414 : Cond.code yX5_leastDeadband cX5_leastDeadband 3 (some .int) ∈ jx_W := jx_3 55 rfl rfl
theorem k_415 : Cond.methodLink RX5 155 yX2_leastDeadbandFor ∈ jx_W := jx_3 56 rfl rfl
theorem k_416 : Cond.instanceMethod yX2_leastDeadbandFor ∈ jx_W := jx_3 57 rfl rfl
theorem k_417 : Cond.selects RX2 yX2_leastDeadbandFor yX2_leastDeadbandFor ∈ jx_W := jx_3 58 rfl rfl
theorem k_418 : Cond.code yX2_leastDeadbandFor cX2_leastDeadbandFor 6 (some .int) ∈ jx_W := jx_3 59 rfl rfl
theorem k_419 : Cond.methodLink RX2 69 yX2_alarmsWith ∈ jx_W := jx_3 60 rfl rfl
theorem k_420 : Cond.methodLink RL 106 yX5_type ∈ jx_W := jx_3 61 rfl rfl
theorem k_421 : Cond.instanceMethod yX5_type ∈ jx_W := jx_3 62 rfl rfl
theorem k_422 : Cond.selects RX5 yX5_type yX5_type ∈ jx_W := jx_3 63 rfl rfl
theorem k_423 : Cond.code yX5_type cX5_type 2 (some .int) ∈ jx_W := jx_3 64 rfl rfl
theorem k_424 : Cond.methodLink RX5 158 yX3_append ∈ jx_W := jx_3 65 rfl rfl
theorem k_425 : Cond.instanceMethod yX3_append ∈ jx_W := jx_3 66 rfl rfl
theorem k_426 : Cond.selects RX3 yX3_append yX3_append ∈ jx_W := jx_3 67 rfl rfl
theorem k_427 : Cond.code yX3_append cX3_append 2 (some .int) ∈ jx_W := jx_3 68 rfl rfl
theorem k_428 : Cond.methodLink RL 110 yX5_clear ∈ jx_W := jx_3 69 rfl rfl
theorem k_429 : Cond.instanceMethod yX5_clear ∈ jx_W := jx_3 70 rfl rfl
theorem k_430 : Cond.selects RX5 yX5_clear yX5_clear ∈ jx_W := jx_3 71 rfl rfl
theorem k_431 : Cond.code yX5_clear cX5_clear 1 (some .int) ∈ jx_W := jx_3 72 rfl rfl
theorem k_432 : Cond.methodLink RX5 162 yX3_discard ∈ jx_W := jx_3 73 rfl rfl
theorem k_433 : Cond.instanceMethod yX3_discard ∈ jx_W := jx_3 74 rfl rfl
theorem k_434 : Cond.selects RX3 yX3_discard yX3_discard ∈ jx_W := jx_3 75 rfl rfl
theorem k_435 : Cond.code yX3_discard cX3_discard 2 (some .int) ∈ jx_W := jx_3 76 rfl rfl
theorem k_436 : Cond.methodLink RL 114 yX5_run ∈ jx_W := jx_3 77 rfl rfl
theorem k_437 : Cond.instanceMethod yX5_run ∈ jx_W := jx_3 78 rfl rfl
theorem k_438 : Cond.selects RX5 yX5_run yX5_run ∈ jx_W := jx_3 79 rfl rfl
theorem k_439 : Cond.code yX5_run cX5_run 3 (some .int) ∈ jx_W := jx_3 80 rfl rfl
theorem k_440 : Cond.methodLink RX5 165 yX3_readCommands ∈ jx_W := jx_3 81 rfl rfl
theorem k_441 : Cond.instanceMethod yX3_readCommands ∈ jx_W := jx_3 82 rfl rfl
theorem k_442 : Cond.selects RX3 yX3_readCommands yX3_readCommands ∈ jx_W := jx_3 83 rfl rfl
theorem k_443 : Cond.code yX3_readCommands cX3_readCommands 2 (some .boolean) ∈ jx_W := jx_3 84 rfl rfl
theorem k_444 : Cond.methodLink RX3 35 yX3_readCommand ∈ jx_W := jx_3 85 rfl rfl
theorem k_445 : Cond.instanceMethod yX3_readCommand ∈ jx_W := jx_3 87 rfl rfl
theorem k_446 : Cond.code yX3_readCommand cX3_readCommand 3 (some .boolean) ∈ jx_W := jx_3 88 rfl rfl
theorem k_447 : Cond.methodLink RX3 43 yX3_readWord ∈ jx_W := jx_3 89 rfl rfl
theorem k_448 : Cond.instanceMethod yX3_readWord ∈ jx_W := jx_3 91 rfl rfl
theorem k_449 : Cond.code yX3_readWord cX3_readWord 5 (some .int) ∈ jx_W := jx_3 92 rfl rfl
theorem k_450 : Cond.methodLink RX3 58 yX3_wordText ∈ jx_W := jx_3 93 rfl rfl
theorem k_451 : Cond.static yX3_wordText ∈ jx_W := jx_3 94 rfl rfl
theorem k_452 : Cond.code yX3_wordText cX3_wordText 1 (some (.object "java/lang/String")) ∈ jx_W := jx_3 95 rfl rfl
theorem k_453 : Cond.methodLink RX3 62 yX3_matchedSigns ∈ jx_W := jx_3 101 rfl rfl
theorem k_454 : Cond.instanceMethod yX3_matchedSigns ∈ jx_W := jx_3 103 rfl rfl
theorem k_455 : Cond.code yX3_matchedSigns cX3_matchedSigns 3 (some .int) ∈ jx_W := jx_3 104 rfl rfl
theorem k_456 : Cond.methodLink RX3 66 yJ0_length_8abf5 ∈ jx_W := jx_3 105 rfl rfl
theorem k_457 : Cond.instanceMethod yJ0_length_8abf5 ∈ jx_W := jx_3 106 rfl rfl
theorem k_458 : Cond.selects RJ0 yJ0_length_8abf5 yJ0_length_8abf5 ∈ jx_W := jx_3 107 rfl rfl
theorem k_459 : Cond.code yJ0_length_8abf5 cJ0_length_8abf5 1 (some .int) ∈ jx_W := jx_3 108 rfl rfl
theorem k_460 : Cond.methodLink RJ0 335 yJ0_coder_7d493 ∈ jx_W := jx_3 109 rfl rfl
theorem k_461 : Cond.instanceMethod yJ0_coder_7d493 ∈ jx_W := jx_3 110 rfl rfl
theorem k_462 : Cond.selects RJ0 yJ0_coder_7d493 yJ0_coder_7d493 ∈ jx_W := jx_3 111 rfl rfl
theorem k_463 : Cond.code yJ0_coder_7d493 cJ0_coder_7d493 1 (some .byte) ∈ jx_W := jx_3 112 rfl rfl
theorem k_464 : Cond.fieldLink RJ0 38 RJ0 "COMPACT_STRINGS" "Z" ∈ jx_W := jx_3 113 rfl rfl
theorem k_465 : Cond.methodLink RX3 76 yJ0_charAt_5068e ∈ jx_W := jx_3 115 rfl rfl
theorem k_466 : Cond.instanceMethod yJ0_charAt_5068e ∈ jx_W := jx_3 116 rfl rfl
theorem k_467 : Cond.selects RJ0 yJ0_charAt_5068e yJ0_charAt_5068e ∈ jx_W := jx_3 117 rfl rfl
theorem k_468 : Cond.code yJ0_charAt_5068e cJ0_charAt_5068e 2 (some .char) ∈ jx_W := jx_3 118 rfl rfl
theorem k_469 : Cond.methodLink RJ0 492 yJ0_isLatin1_aae02 ∈ jx_W := jx_3 119 rfl rfl
theorem k_470 : Cond.instanceMethod yJ0_isLatin1_aae02 ∈ jx_W := jx_3 120 rfl rfl
theorem k_471 : Cond.selects RJ0 yJ0_isLatin1_aae02 yJ0_isLatin1_aae02 ∈ jx_W := jx_3 121 rfl rfl
theorem k_472 : Cond.code yJ0_isLatin1_aae02 cJ0_isLatin1_aae02 1 (some .boolean) ∈ jx_W := jx_3 122 rfl rfl
theorem k_473 : Cond.methodLink RJ0 495 yJ1_charAt_3b067 ∈ jx_W := jx_3 123 rfl rfl
theorem k_474 : Cond.static yJ1_charAt_3b067 ∈ jx_W := jx_3 124 rfl rfl
theorem k_475 : Cond.code yJ1_charAt_3b067 cJ1_charAt_3b067 2 (some .char) ∈ jx_W := jx_3 125 rfl rfl
theorem k_476 : Cond.methodLink RJ1 9 yJ0_checkIndex_df160 ∈ jx_W := jx_3 126 rfl rfl
theorem k_477 : Cond.static yJ0_checkIndex_df160 ∈ jx_W := jx_3 127 rfl rfl
theorem k_478 : Cond.code yJ0_checkIndex_df160 cJ0_checkIndex_df160 2 none ∈ jx_W := jx_3 128 rfl rfl
theorem k_479 : Cond.fieldLink RJ0 1053 RJ3 "SIOOBE_FORMATTER" "Ljava/util/function/BiFunction;" ∈ jx_W := jx_3 129 rfl rfl
theorem k_480 : Cond.methodLink RJ0 1059 yJ3_checkIndex_8e157 ∈ jx_W := jx_3 131 rfl rfl
theorem k_481 : Cond.static yJ3_checkIndex_8e157 ∈ jx_W := jx_3 132 rfl rfl
theorem k_482 : Cond.code yJ3_checkIndex_8e157 cJ3_checkIndex_8e157 3 (some .int) ∈ jx_W := jx_3 133 rfl rfl
theorem k_483 : Cond.methodLink RJ0 498 yJ2_charAt_3b067 ∈ jx_W := jx_3 134 rfl rfl
theorem k_484 : Cond.static yJ2_charAt_3b067 ∈ jx_W := jx_3 135 rfl rfl
theorem k_485 : Cond.code yJ2_charAt_3b067 cJ2_charAt_3b067 2 (some .char) ∈ jx_W := jx_3 136 rfl rfl
theorem k_486 : Cond.methodLink RJ2 67 yJ2_checkIndex_2214a ∈ jx_W := jx_3 137 rfl rfl
theorem k_487 : Cond.static yJ2_checkIndex_2214a ∈ jx_W := jx_3 138 rfl rfl
theorem k_488 : Cond.code yJ2_checkIndex_2214a cJ2_checkIndex_2214a 2 none ∈ jx_W := jx_3 139 rfl rfl
theorem k_489 : Cond.methodLink RJ2 48 yJ2_length_9d52b ∈ jx_W := jx_3 140 rfl rfl
theorem k_490 : Cond.static yJ2_length_9d52b ∈ jx_W := jx_3 141 rfl rfl
theorem k_491 : Cond.code yJ2_length_9d52b cJ2_length_9d52b 1 (some .int) ∈ jx_W := jx_3 142 rfl rfl
theorem k_492 : Cond.methodLink RJ2 414 yJ0_checkIndex_df160 ∈ jx_W := jx_3 143 rfl rfl
theorem k_493 : Cond.methodLink RJ2 71 yJ2_getChar_3b067 ∈ jx_W := jx_3 144 rfl rfl
theorem k_494 : Cond.static yJ2_getChar_3b067 ∈ jx_W := jx_3 145 rfl rfl
theorem k_495 : Cond.code yJ2_getChar_3b067 cJ2_getChar_3b067 2 (some .char) ∈ jx_W := jx_3 146 rfl rfl
theorem k_496 : Cond.fieldLink RJ2 44 RJ2 "$assertionsDisabled" "Z" ∈ jx_W := jx_3 147 rfl rfl
theorem k_497 : Cond.fieldLink RJ2 59 RJ2 "HI_BYTE_SHIFT" "I" ∈ jx_W := jx_3 149 rfl rfl
theorem k_498 : Cond.fieldLink RJ2 63 RJ2 "LO_BYTE_SHIFT" "I" ∈ jx_W := jx_3 151 rfl rfl
theorem k_499 : Cond.methodLink RX3 70 yJ9_max_7cf53 ∈ jx_W := jx_3 153 rfl rfl
theorem k_500 : Cond.static yJ9_max_7cf53 ∈ jx_W := jx_3 154 rfl rfl
theorem k_501 : Cond.code yJ9_max_7cf53 cJ9_max_7cf53 2 (some .int) ∈ jx_W := jx_3 155 rfl rfl
theorem k_502 : Cond.methodLink RX3 47 yX3_readNumber ∈ jx_W := jx_3 156 rfl rfl
theorem k_503 : Cond.instanceMethod yX3_readNumber ∈ jx_W := jx_3 158 rfl rfl
theorem k_504 : Cond.code yX3_readNumber cX3_readNumber 2 (some .boolean) ∈ jx_W := jx_3 159 rfl rfl
theorem k_505 : Cond.methodLink RX3 39 yX3_readSign ∈ jx_W := jx_3 161 rfl rfl
theorem k_506 : Cond.instanceMethod yX3_readSign ∈ jx_W := jx_3 163 rfl rfl
theorem k_507 : Cond.code yX3_readSign cX3_readSign 2 (some .boolean) ∈ jx_W := jx_3 164 rfl rfl
theorem k_508 : Cond.methodLink RX3 54 yX3_readSecond ∈ jx_W := jx_3 165 rfl rfl
theorem k_509 : Cond.instanceMethod yX3_readSecond ∈ jx_W := jx_3 167 rfl rfl
theorem k_510 : Cond.code yX3_readSecond cX3_readSecond 3 (some .boolean) ∈ jx_W := jx_3 168 rfl rfl
theorem k_511 : Cond.methodLink RX5 175 yX5_carryOut ∈ jx_W := jx_3 169 rfl rfl
theorem k_512 : Cond.instanceMethod yX5_carryOut ∈ jx_W := jx_3 171 rfl rfl
theorem k_513 : Cond.code yX5_carryOut cX5_carryOut 4 (some .int) ∈ jx_W := jx_3 172 rfl rfl
theorem k_514 : Cond.arrayClass .byte ∈ jx_W := jx_3 173 rfl rfl
theorem k_515 : Cond.methodLink RL 118 yX5_undo ∈ jx_W := jx_3 174 rfl rfl
theorem k_516 : Cond.instanceMethod yX5_undo ∈ jx_W := jx_3 175 rfl rfl
theorem k_517 : Cond.selects RX5 yX5_undo yX5_undo ∈ jx_W := jx_3 176 rfl rfl
theorem k_518 : Cond.code yX5_undo cX5_undo 2 (some .int) ∈ jx_W := jx_3 177 rfl rfl
theorem k_519 : Cond.methodLink RL 122 yX5_fingerprint ∈ jx_W := jx_3 178 rfl rfl
theorem k_520 : Cond.instanceMethod yX5_fingerprint ∈ jx_W := jx_3 179 rfl rfl
theorem k_521 : Cond.selects RX5 yX5_fingerprint yX5_fingerprint ∈ jx_W := jx_3 180 rfl rfl
theorem k_522 : Cond.code yX5_fingerprint cX5_fingerprint 5 (some .long) ∈ jx_W := jx_3 181 rfl rfl
theorem k_523 : Cond.constantLong RX5 185 157 ∈ jx_W := jx_3 182 rfl rfl
theorem k_524 : Cond.constantLong RX5 187 31 ∈ jx_W := jx_3 183 rfl rfl
theorem k_525 : Cond.methodLink RX5 189 yX5_plant ∈ jx_W := jx_3 184 rfl rfl
theorem k_526 : Cond.methodLink RX5 192 yX5_points ∈ jx_W := jx_3 185 rfl rfl
theorem k_527 : Cond.methodLink RX5 194 yX5_point ∈ jx_W := jx_3 186 rfl rfl
theorem k_528 : Cond.methodLink RX5 197 yX5_events ∈ jx_W := jx_3 187 rfl rfl
theorem k_529 : Cond.methodLink RX5 200 yX5_event ∈ jx_W := jx_3 188 rfl rfl
theorem k_530 : Cond.classLink RL 10 RX6 ∈ jx_W := jx_3 189 rfl rfl
theorem k_531 : Cond.instantiable RX6 11 ∈ jx_W := jx_3 190 rfl rfl
theorem k_532 : Cond.methodLink RL 12 yX6_init ∈ jx_W := jx_3 191 rfl rfl
theorem k_533 : Cond.instanceMethod yX6_init ∈ jx_W := jx_3 192 rfl rfl
theorem k_534 : Cond.code yX6_init cX6_init 1 none ∈ jx_W := jx_3 193 rfl rfl
theorem k_535 : Cond.methodLink RX6 1 objectInit ∈ jx_W := jx_3 194 rfl rfl
theorem k_536 : Cond.fieldLink RX6 7 RX6 "v" "[I" ∈ jx_W := jx_3 195 rfl rfl
theorem k_537 : Cond.fieldLink RX6 13 RX6 "aside" "[I" ∈ jx_W := jx_3 196 rfl rfl
theorem k_538 : Cond.fieldLink RX6 16 RX6 "past" "[I" ∈ jx_W := jx_3 197 rfl rfl
theorem k_539 : Cond.fieldLink RX6 28 RX6 "pastMany" "I" ∈ jx_W := jx_3 198 rfl rfl
theorem k_540 : Cond.fieldLink RX6 19 RX6 "order" "[I" ∈ jx_W := jx_3 199 rfl rfl
theorem k_541 : Cond.fieldLink RX6 116 RX6 "listed" "I" ∈ jx_W := jx_3 200 rfl rfl
theorem k_542 : Cond.fieldLink RX6 22 RX6 "text" "[I" ∈ jx_W := jx_3 201 rfl rfl
theorem k_543 : Cond.fieldLink RX6 137 RX6 "typed" "I" ∈ jx_W := jx_3 202 rfl rfl
theorem k_544 : Cond.fieldLink RX6 140 RX6 "at" "I" ∈ jx_W := jx_3 203 rfl rfl
theorem k_545 : Cond.fieldLink RX6 149 RX6 "found" "I" ∈ jx_W := jx_3 204 rfl rfl
theorem k_546 : Cond.fieldLink RX6 25 RX6 "commands" "[I" ∈ jx_W := jx_3 205 rfl rfl
theorem k_547 : Cond.methodLink RL 17 yX6_add ∈ jx_W := jx_3 229 rfl rfl
theorem k_548 : Cond.instanceMethod yX6_add ∈ jx_W := jx_3 230 rfl rfl
theorem k_549 : Cond.selects RX6 yX6_add yX6_add ∈ jx_W := jx_3 231 rfl rfl
theorem k_550 : Cond.code yX6_add cX6_add 5 (some .int) ∈ jx_W := jx_3 232 rfl rfl
theorem k_551 : Cond.methodLink RX6 36 yX6_isValue ∈ jx_W := jx_3 233 rfl rfl
theorem k_552 : Cond.static yX6_isValue ∈ jx_W := jx_3 234 rfl rfl
theorem k_553 : Cond.code yX6_isValue cX6_isValue 1 (some .boolean) ∈ jx_W := jx_3 235 rfl rfl
theorem k_554 : Cond.methodLink RX6 32 yX6_in ∈ jx_W := jx_3 236 rfl rfl
theorem k_555 : Cond.static yX6_in ∈ jx_W := jx_3 237 rfl rfl
theorem k_556 : Cond.code yX6_in cX6_in 3 (some .boolean) ∈ jx_W := jx_3 238 rfl rfl
theorem k_557 : Cond.methodLink RX6 40 yX6_keeps ∈ jx_W := jx_3 239 rfl rfl
theorem k_558 : Cond.instanceMethod yX6_keeps ∈ jx_W := jx_4 1 rfl rfl
theorem k_559 : Cond.code yX6_keeps cX6_keeps 3 none ∈ jx_W := jx_4 2 rfl rfl
theorem k_560 : Cond.methodLink RX6 44 yX6_puts ∈ jx_W := jx_4 3 rfl rfl
theorem k_561 : Cond.instanceMethod yX6_puts ∈ jx_W := jx_4 5 rfl rfl
theorem k_562 : Cond.code yX6_puts cX6_puts 4 none ∈ jx_W := jx_4 6 rfl rfl
theorem k_563 : Cond.methodLink RL 22 yX6_set ∈ jx_W := jx_4 7 rfl rfl
theorem k_564 : Cond.instanceMethod yX6_set ∈ jx_W := jx_4 8 rfl rfl
theorem k_565 : Cond.selects RX6 yX6_set yX6_set ∈ jx_W := jx_4 9 rfl rfl
theorem k_566 : Cond.code yX6_set cX6_set 5 (some .int) ∈ jx_W := jx_4 10 rfl rfl
theorem k_567 : Cond.methodLink RX6 52 yX6_isPoint ∈ jx_W := jx_4 11 rfl rfl
theorem k_568 : Cond.instanceMethod yX6_isPoint ∈ jx_W := jx_4 13 rfl rfl
theorem k_569 : Cond.code yX6_isPoint cX6_isPoint 2 (some .boolean) ∈ jx_W := jx_4 14 rfl rfl
theorem k_570 : Cond.methodLink RX6 55 yX6_isIn ∈ jx_W := jx_4 15 rfl rfl
theorem k_571 : Cond.static yX6_isIn ∈ jx_W := jx_4 16 rfl rfl
theorem k_572 : Cond.code yX6_isIn cX6_isIn 2 (some .boolean) ∈ jx_W := jx_4 17 rfl rfl
theorem k_573 : Cond.methodLink RX6 59 yX6_of ∈ jx_W := jx_4 18 rfl rfl
theorem k_574 : Cond.instanceMethod yX6_of ∈ jx_W := jx_4 20 rfl rfl
theorem k_575 : Cond.code yX6_of cX6_of 3 (some .int) ∈ jx_W := jx_4 21 rfl rfl
theorem k_576 : Cond.methodLink RX6 63 yX6_leavesShelf ∈ jx_W := jx_4 22 rfl rfl
theorem k_577 : Cond.instanceMethod yX6_leavesShelf ∈ jx_W := jx_4 24 rfl rfl
theorem k_578 : Cond.code yX6_leavesShelf cX6_leavesShelf 2 none ∈ jx_W := jx_4 25 rfl rfl
theorem k_579 : Cond.methodLink RX6 48 yX6_happens ∈ jx_W := jx_4 26 rfl rfl
theorem k_580 : Cond.instanceMethod yX6_happens ∈ jx_W := jx_4 28 rfl rfl
theorem k_581 : Cond.code yX6_happens cX6_happens 4 none ∈ jx_W := jx_4 29 rfl rfl
theorem k_582 : Cond.methodLink RL 26 yX6_setRoot ∈ jx_W := jx_4 30 rfl rfl
theorem k_583 : Cond.instanceMethod yX6_setRoot ∈ jx_W := jx_4 31 rfl rfl
theorem k_584 : Cond.selects RX6 yX6_setRoot yX6_setRoot ∈ jx_W := jx_4 32 rfl rfl
theorem k_585 : Cond.code yX6_setRoot cX6_setRoot 5 (some .int) ∈ jx_W := jx_4 33 rfl rfl
theorem k_586 : Cond.methodLink RL 30 yX6_setValue ∈ jx_W := jx_4 34 rfl rfl
theorem k_587 : Cond.instanceMethod yX6_setValue ∈ jx_W := jx_4 35 rfl rfl
theorem k_588 : Cond.selects RX6 yX6_setValue yX6_setValue ∈ jx_W := jx_4 36 rfl rfl
theorem k_589 : Cond.code yX6_setValue cX6_setValue 3 (some .int) ∈ jx_W := jx_4 37 rfl rfl
theorem k_590 : Cond.methodLink RX6 67 yX6_copies ∈ jx_W := jx_4 38 rfl rfl
theorem k_591 : Cond.static yX6_copies ∈ jx_W := jx_4 39 rfl rfl
theorem k_592 : Cond.code yX6_copies cX6_copies 3 none ∈ jx_W := jx_4 40 rfl rfl
theorem k_593 : Cond.methodLink RX6 71 yX6_values ∈ jx_W := jx_4 41 rfl rfl
theorem k_594 : Cond.instanceMethod yX6_values ∈ jx_W := jx_4 43 rfl rfl
theorem k_595 : Cond.code yX6_values cX6_values 4 (some .int) ∈ jx_W := jx_4 44 rfl rfl
theorem k_596 : Cond.methodLink RX6 74 yX6_acts ∈ jx_W := jx_4 45 rfl rfl
theorem k_597 : Cond.instanceMethod yX6_acts ∈ jx_W := jx_4 47 rfl rfl
theorem k_598 : Cond.code yX6_acts cX6_acts 2 (some .int) ∈ jx_W := jx_4 48 rfl rfl
theorem k_599 : Cond.methodLink RL 34 yX6_point ∈ jx_W := jx_4 49 rfl rfl
theorem k_600 : Cond.instanceMethod yX6_point ∈ jx_W := jx_4 50 rfl rfl
theorem k_601 : Cond.selects RX6 yX6_point yX6_point ∈ jx_W := jx_4 51 rfl rfl
theorem k_602 : Cond.code yX6_point cX6_point 3 (some .int) ∈ jx_W := jx_4 52 rfl rfl
theorem k_603 : Cond.methodLink RX6 87 yX6_told ∈ jx_W := jx_4 53 rfl rfl
theorem k_604 : Cond.instanceMethod yX6_told ∈ jx_W := jx_4 55 rfl rfl
theorem k_605 : Cond.code yX6_told cX6_told 3 (some .int) ∈ jx_W := jx_4 56 rfl rfl
theorem k_606 : Cond.methodLink RX6 84 yX6_why ∈ jx_W := jx_4 57 rfl rfl
theorem k_607 : Cond.instanceMethod yX6_why ∈ jx_W := jx_4 59 rfl rfl
theorem k_608 : Cond.code yX6_why cX6_why 2 (some .int) ∈ jx_W := jx_4 60 rfl rfl
theorem k_609 : Cond.methodLink RX6 78 yX6_stands ∈ jx_W := jx_4 61 rfl rfl
theorem k_610 : Cond.instanceMethod yX6_stands ∈ jx_W := jx_4 63 rfl rfl
theorem k_611 : Cond.code yX6_stands cX6_stands 2 (some .boolean) ∈ jx_W := jx_4 64 rfl rfl
theorem k_612 : Cond.methodLink RX6 81 yX6_hasRoot ∈ jx_W := jx_4 65 rfl rfl
theorem k_613 : Cond.instanceMethod yX6_hasRoot ∈ jx_W := jx_4 67 rfl rfl
theorem k_614 : Cond.code yX6_hasRoot cX6_hasRoot 4 (some .boolean) ∈ jx_W := jx_4 68 rfl rfl
theorem k_615 : Cond.methodLink RL 39 yX6_points ∈ jx_W := jx_4 69 rfl rfl
theorem k_616 : Cond.instanceMethod yX6_points ∈ jx_W := jx_4 70 rfl rfl
theorem k_617 : Cond.selects RX6 yX6_points yX6_points ∈ jx_W := jx_4 71 rfl rfl
theorem k_618 : Cond.code yX6_points cX6_points 1 (some .int) ∈ jx_W := jx_4 72 rfl rfl
theorem k_619 : Cond.methodLink RL 44 yX6_setState ∈ jx_W := jx_4 73 rfl rfl
theorem k_620 : Cond.instanceMethod yX6_setState ∈ jx_W := jx_4 74 rfl rfl
theorem k_621 : Cond.selects RX6 yX6_setState yX6_setState ∈ jx_W := jx_4 75 rfl rfl
theorem k_622 : Cond.code yX6_setState cX6_setState 2 (some .int) ∈ jx_W := jx_4 76 rfl rfl
theorem k_623 : Cond.methodLink RX6 90 yX6_states ∈ jx_W := jx_4 77 rfl rfl
theorem k_624 : Cond.instanceMethod yX6_states ∈ jx_W := jx_4 79 rfl rfl
theorem k_625 : Cond.code yX6_states cX6_states 3 (some .int) ∈ jx_W := jx_4 80 rfl rfl
theorem k_626 : Cond.methodLink RL 48 yX6_setFlood ∈ jx_W := jx_4 81 rfl rfl
theorem k_627 : Cond.instanceMethod yX6_setFlood ∈ jx_W := jx_4 82 rfl rfl
theorem k_628 : Cond.selects RX6 yX6_setFlood yX6_setFlood ∈ jx_W := jx_4 83 rfl rfl
theorem k_629 : Cond.code yX6_setFlood cX6_setFlood 5 (some .int) ∈ jx_W := jx_4 84 rfl rfl
theorem k_630 : Cond.methodLink RL 52 yX6_tick ∈ jx_W := jx_4 85 rfl rfl
theorem k_631 : Cond.instanceMethod yX6_tick ∈ jx_W := jx_4 86 rfl rfl
theorem k_632 : Cond.selects RX6 yX6_tick yX6_tick ∈ jx_W := jx_4 87 rfl rfl
theorem k_633 : Cond.code yX6_tick cX6_tick 2 (some .int) ∈ jx_W := jx_4 88 rfl rfl
theorem k_634 : Cond.methodLink RX6 110 yX6_ticks ∈ jx_W := jx_4 89 rfl rfl
theorem k_635 : Cond.instanceMethod yX6_ticks ∈ jx_W := jx_4 91 rfl rfl
theorem k_636 : Cond.code yX6_ticks cX6_ticks 3 (some .int) ∈ jx_W := jx_4 92 rfl rfl
theorem k_637 : Cond.methodLink RX6 107 yX6_ticksOnce ∈ jx_W := jx_4 93 rfl rfl
theorem k_638 : Cond.instanceMethod yX6_ticksOnce ∈ jx_W := jx_4 95 rfl rfl
theorem k_639 : Cond.code yX6_ticksOnce cX6_ticksOnce 2 none ∈ jx_W := jx_4 96 rfl rfl
theorem k_640 : Cond.methodLink RX6 100 yX6_looks ∈ jx_W := jx_4 97 rfl rfl
theorem k_641 : Cond.instanceMethod yX6_looks ∈ jx_W := jx_4 99 rfl rfl
theorem k_642 : Cond.code yX6_looks cX6_looks 4 none ∈ jx_W := jx_4 100 rfl rfl
theorem k_643 : Cond.methodLink RX6 93 yX6_isOver ∈ jx_W := jx_4 101 rfl rfl
theorem k_644 : Cond.static yX6_isOver ∈ jx_W := jx_4 102 rfl rfl
theorem k_645 : Cond.code yX6_isOver cX6_isOver 3 (some .boolean) ∈ jx_W := jx_4 103 rfl rfl
theorem k_646 : Cond.methodLink RX6 96 yX6_isClear ∈ jx_W := jx_4 104 rfl rfl
theorem k_647 : Cond.static yX6_isClear ∈ jx_W := jx_4 105 rfl rfl
theorem k_648 : Cond.code yX6_isClear cX6_isClear 4 (some .boolean) ∈ jx_W := jx_4 106 rfl rfl
theorem k_649 : Cond.methodLink RX6 103 yX6_rate ∈ jx_W := jx_4 107 rfl rfl
theorem k_650 : Cond.instanceMethod yX6_rate ∈ jx_W := jx_4 109 rfl rfl
theorem k_651 : Cond.code yX6_rate cX6_rate 3 (some .int) ∈ jx_W := jx_4 110 rfl rfl
theorem k_652 : Cond.methodLink RL 56 yX6_plant ∈ jx_W := jx_4 111 rfl rfl
theorem k_653 : Cond.instanceMethod yX6_plant ∈ jx_W := jx_4 112 rfl rfl
theorem k_654 : Cond.selects RX6 yX6_plant yX6_plant ∈ jx_W := jx_4 113 rfl rfl
theorem k_655 : Cond.code yX6_plant cX6_plant 2 (some .int) ∈ jx_W := jx_4 114 rfl rfl
theorem k_656 : Cond.methodLink RL 60 yX6_ack ∈ jx_W := jx_4 115 rfl rfl
theorem k_657 : Cond.instanceMethod yX6_ack ∈ jx_W := jx_4 116 rfl rfl
theorem k_658 : Cond.selects RX6 yX6_ack yX6_ack ∈ jx_W := jx_4 117 rfl rfl
theorem k_659 : Cond.code yX6_ack cX6_ack 2 (some .int) ∈ jx_W := jx_4 118 rfl rfl
theorem k_660 : Cond.methodLink RX6 113 yX6_acks ∈ jx_W := jx_4 119 rfl rfl
theorem k_661 : Cond.instanceMethod yX6_acks ∈ jx_W := jx_4 121 rfl rfl
theorem k_662 : Cond.code yX6_acks cX6_acks 3 (some .int) ∈ jx_W := jx_4 122 rfl rfl
theorem k_663 : Cond.methodLink RL 64 yX6_ackAll ∈ jx_W := jx_4 123 rfl rfl
theorem k_664 : Cond.instanceMethod yX6_ackAll ∈ jx_W := jx_4 124 rfl rfl
theorem k_665 : Cond.selects RX6 yX6_ackAll yX6_ackAll ∈ jx_W := jx_4 125 rfl rfl
theorem k_666 : Cond.code yX6_ackAll cX6_ackAll 4 (some .int) ∈ jx_W := jx_4 126 rfl rfl
theorem k_667 : Cond.methodLink RX6 122 yX6_lists ∈ jx_W := jx_4 127 rfl rfl
theorem k_668 : Cond.instanceMethod yX6_lists ∈ jx_W := jx_4 129 rfl rfl
theorem k_669 : Cond.code yX6_lists cX6_lists 3 none ∈ jx_W := jx_4 130 rfl rfl
theorem k_670 : Cond.methodLink RX6 119 yX6_isAhead ∈ jx_W := jx_4 131 rfl rfl
theorem k_671 : Cond.instanceMethod yX6_isAhead ∈ jx_W := jx_4 133 rfl rfl
theorem k_672 : Cond.code yX6_isAhead cX6_isAhead 4 (some .boolean) ∈ jx_W := jx_4 134 rfl rfl
theorem k_673 : Cond.methodLink RL 68 yX6_shelve ∈ jx_W := jx_4 135 rfl rfl
theorem k_674 : Cond.instanceMethod yX6_shelve ∈ jx_W := jx_4 136 rfl rfl
theorem k_675 : Cond.selects RX6 yX6_shelve yX6_shelve ∈ jx_W := jx_4 137 rfl rfl
theorem k_676 : Cond.code yX6_shelve cX6_shelve 3 (some .int) ∈ jx_W := jx_4 138 rfl rfl
theorem k_677 : Cond.methodLink RX6 125 yX6_shelves ∈ jx_W := jx_4 139 rfl rfl
theorem k_678 : Cond.instanceMethod yX6_shelves ∈ jx_W := jx_4 141 rfl rfl
theorem k_679 : Cond.code yX6_shelves cX6_shelves 3 (some .int) ∈ jx_W := jx_4 142 rfl rfl
theorem k_680 : Cond.methodLink RL 72 yX6_unshelve ∈ jx_W := jx_4 143 rfl rfl
theorem k_681 : Cond.instanceMethod yX6_unshelve ∈ jx_W := jx_4 144 rfl rfl
theorem k_682 : Cond.selects RX6 yX6_unshelve yX6_unshelve ∈ jx_W := jx_4 145 rfl rfl
theorem k_683 : Cond.code yX6_unshelve cX6_unshelve 3 (some .int) ∈ jx_W := jx_4 146 rfl rfl
theorem k_684 : Cond.methodLink RL 76 yX6_list ∈ jx_W := jx_4 147 rfl rfl
theorem k_685 : Cond.instanceMethod yX6_list ∈ jx_W := jx_4 148 rfl rfl
theorem k_686 : Cond.selects RX6 yX6_list yX6_list ∈ jx_W := jx_4 149 rfl rfl
theorem k_687 : Cond.code yX6_list cX6_list 2 (some .int) ∈ jx_W := jx_4 150 rfl rfl
theorem k_688 : Cond.methodLink RL 80 yX6_count ∈ jx_W := jx_4 151 rfl rfl
theorem k_689 : Cond.instanceMethod yX6_count ∈ jx_W := jx_4 152 rfl rfl
theorem k_690 : Cond.selects RX6 yX6_count yX6_count ∈ jx_W := jx_4 153 rfl rfl
theorem k_691 : Cond.code yX6_count cX6_count 4 (some .int) ∈ jx_W := jx_4 154 rfl rfl
theorem k_692 : Cond.methodLink RX6 128 yX6_counts ∈ jx_W := jx_4 155 rfl rfl
theorem k_693 : Cond.instanceMethod yX6_counts ∈ jx_W := jx_4 157 rfl rfl
theorem k_694 : Cond.code yX6_counts cX6_counts 3 (some .boolean) ∈ jx_W := jx_4 158 rfl rfl
theorem k_695 : Cond.methodLink RL 84 yX6_events ∈ jx_W := jx_4 159 rfl rfl
theorem k_696 : Cond.instanceMethod yX6_events ∈ jx_W := jx_4 160 rfl rfl
theorem k_697 : Cond.selects RX6 yX6_events yX6_events ∈ jx_W := jx_4 161 rfl rfl
theorem k_698 : Cond.code yX6_events cX6_events 1 (some .int) ∈ jx_W := jx_4 162 rfl rfl
theorem k_699 : Cond.methodLink RL 88 yX6_event ∈ jx_W := jx_4 163 rfl rfl
theorem k_700 : Cond.instanceMethod yX6_event ∈ jx_W := jx_4 164 rfl rfl
theorem k_701 : Cond.selects RX6 yX6_event yX6_event ∈ jx_W := jx_4 165 rfl rfl
theorem k_702 : Cond.code yX6_event cX6_event 3 (some .int) ∈ jx_W := jx_4 166 rfl rfl
theorem k_703 : Cond.methodLink RX6 131 yX6_eventOf ∈ jx_W := jx_4 167 rfl rfl
theorem k_704 : Cond.instanceMethod yX6_eventOf ∈ jx_W := jx_4 169 rfl rfl
theorem k_705 : Cond.code yX6_eventOf cX6_eventOf 3 (some .int) ∈ jx_W := jx_4 170 rfl rfl
theorem k_706 : Cond.methodLink RL 93 yX6_meanAck ∈ jx_W := jx_4 171 rfl rfl
theorem k_707 : Cond.instanceMethod yX6_meanAck ∈ jx_W := jx_4 172 rfl rfl
theorem k_708 : Cond.selects RX6 yX6_meanAck yX6_meanAck ∈ jx_W := jx_4 173 rfl rfl
theorem k_709 : Cond.code yX6_meanAck cX6_meanAck 1 (some .float) ∈ jx_W := jx_4 174 rfl rfl
theorem k_710 : Cond.methodLink RL 97 yX6_worst ∈ jx_W := jx_4 175 rfl rfl
theorem k_711 : Cond.instanceMethod yX6_worst ∈ jx_W := jx_4 176 rfl rfl
theorem k_712 : Cond.selects RX6 yX6_worst yX6_worst ∈ jx_W := jx_4 177 rfl rfl
theorem k_713 : Cond.code yX6_worst cX6_worst 6 (some .int) ∈ jx_W := jx_4 178 rfl rfl
theorem k_714 : Cond.methodLink RL 101 yX6_replay ∈ jx_W := jx_4 179 rfl rfl
theorem k_715 : Cond.instanceMethod yX6_replay ∈ jx_W := jx_4 180 rfl rfl
theorem k_716 : Cond.selects RX6 yX6_replay yX6_replay ∈ jx_W := jx_4 181 rfl rfl
theorem k_717 : Cond.code yX6_replay cX6_replay 3 (some .int) ∈ jx_W := jx_4 182 rfl rfl
theorem k_718 : Cond.methodLink RX6 134 yX6_plays ∈ jx_W := jx_4 183 rfl rfl
theorem k_719 : Cond.instanceMethod yX6_plays ∈ jx_W := jx_4 185 rfl rfl
theorem k_720 : Cond.code yX6_plays cX6_plays 10 (some .int) ∈ jx_W := jx_4 186 rfl rfl
theorem k_721 : Cond.methodLink RL 105 yX6_leastDeadband ∈ jx_W := jx_4 187 rfl rfl
theorem k_722 : Cond.instanceMethod yX6_leastDeadband ∈ jx_W := jx_4 188 rfl rfl
theorem k_723 : Cond.selects RX6 yX6_leastDeadband yX6_leastDeadband ∈ jx_W := jx_4 189 rfl rfl
theorem k_724 : Cond.code yX6_leastDeadband cX6_leastDeadband 4 (some .int) ∈ jx_W := jx_4 190 rfl rfl
theorem k_725 : Cond.methodLink RL 109 yX6_type ∈ jx_W := jx_4 191 rfl rfl
theorem k_726 : Cond.instanceMethod yX6_type ∈ jx_W := jx_4 192 rfl rfl
theorem k_727 : Cond.selects RX6 yX6_type yX6_type ∈ jx_W := jx_4 193 rfl rfl
theorem k_728 : Cond.code yX6_type cX6_type 2 (some .int) ∈ jx_W := jx_4 194 rfl rfl
theorem k_729 : Cond.methodLink RL 113 yX6_clear ∈ jx_W := jx_4 195 rfl rfl
theorem k_730 : Cond.instanceMethod yX6_clear ∈ jx_W := jx_4 196 rfl rfl
theorem k_731 : Cond.selects RX6 yX6_clear yX6_clear ∈ jx_W := jx_4 197 rfl rfl
theorem k_732 : Cond.code yX6_clear cX6_clear 2 (some .int) ∈ jx_W := jx_4 198 rfl rfl
theorem k_733 : Cond.methodLink RL 117 yX6_run ∈ jx_W := jx_4 199 rfl rfl
theorem k_734 : Cond.instanceMethod yX6_run ∈ jx_W := jx_4 200 rfl rfl
theorem k_735 : Cond.selects RX6 yX6_run yX6_run ∈ jx_W := jx_4 201 rfl rfl
theorem k_736 : Cond.code yX6_run cX6_run 3 (some .int) ∈ jx_W := jx_4 202 rfl rfl
theorem k_737 : Cond.methodLink RX6 165 yX6_reads ∈ jx_W := jx_4 203 rfl rfl
theorem k_738 : Cond.instanceMethod yX6_reads ∈ jx_W := jx_4 205 rfl rfl
theorem k_739 : Cond.code yX6_reads cX6_reads 2 (some .boolean) ∈ jx_W := jx_4 206 rfl rfl
theorem k_740 : Cond.methodLink RX6 162 yX6_readsCommand ∈ jx_W := jx_4 207 rfl rfl
theorem k_741 : Cond.instanceMethod yX6_readsCommand ∈ jx_W := jx_4 209 rfl rfl
theorem k_742 : Cond.code yX6_readsCommand cX6_readsCommand 4 (some .boolean) ∈ jx_W := jx_4 210 rfl rfl
theorem k_743 : Cond.methodLink RX6 155 yX6_word ∈ jx_W := jx_4 211 rfl rfl
theorem k_744 : Cond.instanceMethod yX6_word ∈ jx_W := jx_4 213 rfl rfl
theorem k_745 : Cond.code yX6_word cX6_word 3 (some .boolean) ∈ jx_W := jx_4 214 rfl rfl
theorem k_746 : Cond.methodLink RX6 143 yX6_sign ∈ jx_W := jx_4 215 rfl rfl
theorem k_747 : Cond.instanceMethod yX6_sign ∈ jx_W := jx_4 217 rfl rfl
theorem k_748 : Cond.code yX6_sign cX6_sign 1 (some .int) ∈ jx_W := jx_4 218 rfl rfl
theorem k_749 : Cond.methodLink RX6 152 yX6_three ∈ jx_W := jx_4 219 rfl rfl
theorem k_750 : Cond.instanceMethod yX6_three ∈ jx_W := jx_4 221 rfl rfl
theorem k_751 : Cond.code yX6_three cX6_three 4 (some .boolean) ∈ jx_W := jx_4 222 rfl rfl
theorem k_752 : Cond.methodLink RX6 146 yX6_takes ∈ jx_W := jx_4 223 rfl rfl
theorem k_753 : Cond.instanceMethod yX6_takes ∈ jx_W := jx_4 225 rfl rfl
theorem k_754 : Cond.code yX6_takes cX6_takes 3 (some .boolean) ∈ jx_W := jx_4 226 rfl rfl
theorem k_755 : Cond.methodLink RX6 159 yX6_number ∈ jx_W := jx_4 227 rfl rfl
theorem k_756 : Cond.instanceMethod yX6_number ∈ jx_W := jx_4 229 rfl rfl
theorem k_757 : Cond.code yX6_number cX6_number 4 (some .boolean) ∈ jx_W := jx_4 230 rfl rfl
theorem k_758 : Cond.methodLink RX6 168 yX6_does ∈ jx_W := jx_4 231 rfl rfl
theorem k_759 : Cond.instanceMethod yX6_does ∈ jx_W := jx_4 233 rfl rfl
theorem k_760 : Cond.code yX6_does cX6_does 4 (some .int) ∈ jx_W := jx_4 234 rfl rfl
theorem k_761 : Cond.methodLink RL 121 yX6_undo ∈ jx_W := jx_4 235 rfl rfl
theorem k_762 : Cond.instanceMethod yX6_undo ∈ jx_W := jx_4 236 rfl rfl
theorem k_763 : Cond.selects RX6 yX6_undo yX6_undo ∈ jx_W := jx_4 237 rfl rfl
theorem k_764 : Cond.code yX6_undo cX6_undo 2 (some .int) ∈ jx_W := jx_4 238 rfl rfl
theorem k_765 : Cond.methodLink RL 126 yX6_fingerprint ∈ jx_W := jx_4 239 rfl rfl
theorem k_766 : Cond.instanceMethod yX6_fingerprint ∈ jx_W := jx_5 0 rfl rfl
theorem k_767 : Cond.selects RX6 yX6_fingerprint yX6_fingerprint ∈ jx_W := jx_5 1 rfl rfl
theorem k_768 : Cond.code yX6_fingerprint cX6_fingerprint 5 (some .long) ∈ jx_W := jx_5 2 rfl rfl
theorem k_769 : Cond.constantLong RX6 171 157 ∈ jx_W := jx_5 3 rfl rfl
theorem k_770 : Cond.constantLong RX6 173 31 ∈ jx_W := jx_5 4 rfl rfl
theorem k_771 : Cond.fieldLink RJ0 9 RJ0 "value" "[B" ∈ jx_W := jx_5 5 rfl rfl
theorem k_772 : Cond.fieldLink RJ0 15 RJ0 "coder" "B" ∈ jx_W := jx_5 6 rfl rfl
theorem k_773 : Cond.selects RX5 yX5_noteBefore yX5_noteBefore ∈ jx_W := jx_s 0 rfl rfl
theorem k_774 : Cond.selects RX5 yX5_settle yX5_settle ∈ jx_W := jx_s 1 rfl rfl
theorem k_775 : Cond.selects RX5 yX5_keepBefore yX5_keepBefore ∈ jx_W := jx_s 2 rfl rfl
theorem k_776 : Cond.selects RX4 yX4_endShelf yX4_endShelf ∈ jx_W := jx_s 3 rfl rfl
theorem k_777 : Cond.selects RX4 yX4_isOnWayUp yX4_isOnWayUp ∈ jx_W := jx_s 4 rfl rfl
theorem k_778 : Cond.selects RX4 yX4_whyHidden yX4_whyHidden ∈ jx_W := jx_s 5 rfl rfl
theorem k_779 : Cond.selects RX4 yX4_hasRootInAlarm yX4_hasRootInAlarm ∈ jx_W := jx_s 6 rfl rfl
theorem k_780 : Cond.selects RX4 yX4_isFlooded yX4_isFlooded ∈ jx_W := jx_s 7 rfl rfl
theorem k_781 : Cond.selects RX4 yX4_passTick yX4_passTick ∈ jx_W := jx_s 8 rfl rfl
theorem k_782 : Cond.selects RX4 yX4_movePoint yX4_movePoint ∈ jx_W := jx_s 9 rfl rfl
theorem k_783 : Cond.selects RX2 yX2_isClear yX2_isClear ∈ jx_W := jx_s 10 rfl rfl
theorem k_784 : Cond.selects RX2 yX2_isOver yX2_isOver ∈ jx_W := jx_s 11 rfl rfl
theorem k_785 : Cond.selects RX4 yX4_activate yX4_activate ∈ jx_W := jx_s 12 rfl rfl
theorem k_786 : Cond.selects RX4 yX4_lookAtFlood yX4_lookAtFlood ∈ jx_W := jx_s 13 rfl rfl
theorem k_787 : Cond.selects RX4 yX4_comesBefore yX4_comesBefore ∈ jx_W := jx_s 14 rfl rfl
theorem k_788 : Cond.selects RX3 yX3_readCommand yX3_readCommand ∈ jx_W := jx_s 15 rfl rfl
theorem k_789 : Cond.selects RX3 yX3_readWord yX3_readWord ∈ jx_W := jx_s 16 rfl rfl
theorem k_790 : Cond.selects RX3 yX3_matchedSigns yX3_matchedSigns ∈ jx_W := jx_s 17 rfl rfl
theorem k_791 : Cond.selects RX3 yX3_readNumber yX3_readNumber ∈ jx_W := jx_s 18 rfl rfl
theorem k_792 : Cond.selects RX3 yX3_readSign yX3_readSign ∈ jx_W := jx_s 19 rfl rfl
theorem k_793 : Cond.selects RX3 yX3_readSecond yX3_readSecond ∈ jx_W := jx_s 20 rfl rfl
theorem k_794 : Cond.selects RX5 yX5_carryOut yX5_carryOut ∈ jx_W := jx_s 21 rfl rfl
theorem k_795 : Cond.selects RX6 yX6_keeps yX6_keeps ∈ jx_W := jx_s 22 rfl rfl
theorem k_796 : Cond.selects RX6 yX6_puts yX6_puts ∈ jx_W := jx_s 23 rfl rfl
theorem k_797 : Cond.selects RX6 yX6_isPoint yX6_isPoint ∈ jx_W := jx_s 24 rfl rfl
theorem k_798 : Cond.selects RX6 yX6_of yX6_of ∈ jx_W := jx_s 25 rfl rfl
theorem k_799 : Cond.selects RX6 yX6_leavesShelf yX6_leavesShelf ∈ jx_W := jx_s 26 rfl rfl
theorem k_800 : Cond.selects RX6 yX6_happens yX6_happens ∈ jx_W := jx_s 27 rfl rfl
theorem k_801 : Cond.selects RX6 yX6_values yX6_values ∈ jx_W := jx_s 28 rfl rfl
theorem k_802 : Cond.selects RX6 yX6_acts yX6_acts ∈ jx_W := jx_s 29 rfl rfl
theorem k_803 : Cond.selects RX6 yX6_told yX6_told ∈ jx_W := jx_s 30 rfl rfl
theorem k_804 : Cond.selects RX6 yX6_why yX6_why ∈ jx_W := jx_s 31 rfl rfl
theorem k_805 : Cond.selects RX6 yX6_stands yX6_stands ∈ jx_W := jx_s 32 rfl rfl
theorem k_806 : Cond.selects RX6 yX6_hasRoot yX6_hasRoot ∈ jx_W := jx_s 33 rfl rfl
theorem k_807 : Cond.selects RX6 yX6_states yX6_states ∈ jx_W := jx_s 34 rfl rfl
theorem k_808 : Cond.selects RX6 yX6_ticks yX6_ticks ∈ jx_W := jx_s 35 rfl rfl
theorem k_809 : Cond.selects RX6 yX6_ticksOnce yX6_ticksOnce ∈ jx_W := jx_s 36 rfl rfl
theorem k_810 : Cond.selects RX6 yX6_looks yX6_looks ∈ jx_W := jx_s 37 rfl rfl
theorem k_811 : Cond.selects RX6 yX6_rate yX6_rate ∈ jx_W := jx_s 38 rfl rfl
theorem k_812 : Cond.selects RX6 yX6_acks yX6_acks ∈ jx_W := jx_s 39 rfl rfl
theorem k_813 : Cond.selects RX6 yX6_lists yX6_lists ∈ jx_W := jx_s 40 rfl rfl
theorem k_814 : Cond.selects RX6 yX6_isAhead yX6_isAhead ∈ jx_W := jx_s 41 rfl rfl
theorem k_815 : Cond.selects RX6 yX6_shelves yX6_shelves ∈ jx_W := jx_s 42 rfl rfl
theorem k_816 : Cond.selects RX6 yX6_counts yX6_counts ∈ jx_W := jx_s 43 rfl rfl
theorem k_817 : Cond.selects RX6 yX6_eventOf yX6_eventOf ∈ jx_W := jx_s 44 rfl rfl
theorem k_818 : Cond.selects RX6 yX6_plays yX6_plays ∈ jx_W := jx_s 45 rfl rfl
theorem k_819 : Cond.selects RX6 yX6_reads yX6_reads ∈ jx_W := jx_s 46 rfl rfl
theorem k_820 : Cond.selects RX6 yX6_readsCommand yX6_readsCommand ∈ jx_W := jx_s 47 rfl rfl
theorem k_821 : Cond.selects RX6 yX6_word yX6_word ∈ jx_W := jx_s 48 rfl rfl
theorem k_822 : Cond.selects RX6 yX6_sign yX6_sign ∈ jx_W := jx_s 49 rfl rfl
theorem k_823 : Cond.selects RX6 yX6_three yX6_three ∈ jx_W := jx_s 50 rfl rfl
theorem k_824 : Cond.selects RX6 yX6_takes yX6_takes ∈ jx_W := jx_s 51 rfl rfl
theorem k_825 : Cond.selects RX6 yX6_number yX6_number ∈ jx_W := jx_s 52 rfl rfl
theorem k_826 : Cond.selects RX6 yX6_does yX6_does ∈ jx_W := jx_s 53 rfl rfl
end
section
theorem dX0_init_0 : decode cX0_init 0 = .ok (.aload_n 0, 1) := by decide +kernel
theorem dX0_init_1 : decode cX0_init 1 = .ok (.invokespecial 3, 3) := by decide +kernel
theorem dX0_init_4 : decode cX0_init 4 = .ok (.aload_n 0, 1) := by decide +kernel
theorem dX0_init_5 : decode cX0_init 5 = .ok (.bipush 60, 2) := by decide +kernel
theorem dX0_init_7 : decode cX0_init 7 = .ok (.newarray .int, 2) := by decide +kernel
theorem dX0_init_9 : decode cX0_init 9 = .ok (.putfield 9, 3) := by decide +kernel
theorem dX0_init_12 : decode cX0_init 12 = .ok (.aload_n 0, 1) := by decide +kernel
theorem dX0_init_13 : decode cX0_init 13 = .ok (.bipush 10, 2) := by decide +kernel
theorem dX0_init_15 : decode cX0_init 15 = .ok (.putfield 15, 3) := by decide +kernel
theorem dX0_init_18 : decode cX0_init 18 = .ok (.aload_n 0, 1) := by decide +kernel
theorem dX0_init_19 : decode cX0_init 19 = .ok (.iconst 5, 1) := by decide +kernel
theorem dX0_init_20 : decode cX0_init 20 = .ok (.putfield 19, 3) := by decide +kernel
theorem dX0_init_23 : decode cX0_init 23 = .ok (.aload_n 0, 1) := by decide +kernel
theorem dX0_init_24 : decode cX0_init 24 = .ok (.iconst 2, 1) := by decide +kernel
theorem dX0_init_25 : decode cX0_init 25 = .ok (.putfield 22, 3) := by decide +kernel
theorem dX0_init_28 : decode cX0_init 28 = .ok (.return_, 1) := by decide +kernel
theorem dX0_copyFrom_0 : decode cX0_copyFrom 0 = .ok (.aload_n 1, 1) := by decide +kernel
theorem dX0_copyFrom_1 : decode cX0_copyFrom 1 = .ok (.getfield 9, 3) := by decide +kernel
theorem dX0_copyFrom_4 : decode cX0_copyFrom 4 = .ok (.iconst 0, 1) := by decide +kernel
theorem dX0_copyFrom_5 : decode cX0_copyFrom 5 = .ok (.aload_n 0, 1) := by decide +kernel
theorem dX0_copyFrom_6 : decode cX0_copyFrom 6 = .ok (.getfield 9, 3) := by decide +kernel
theorem dX0_copyFrom_9 : decode cX0_copyFrom 9 = .ok (.iconst 0, 1) := by decide +kernel
theorem dX0_copyFrom_10 : decode cX0_copyFrom 10 = .ok (.bipush 60, 2) := by decide +kernel
theorem dX0_copyFrom_12 : decode cX0_copyFrom 12 = .ok (.invokestatic 25, 3) := by decide +kernel
theorem dX0_copyFrom_15 : decode cX0_copyFrom 15 = .ok (.aload_n 0, 1) := by decide +kernel
theorem dX0_copyFrom_16 : decode cX0_copyFrom 16 = .ok (.aload_n 1, 1) := by decide +kernel
theorem dX0_copyFrom_17 : decode cX0_copyFrom 17 = .ok (.getfield 15, 3) := by decide +kernel
theorem dX0_copyFrom_20 : decode cX0_copyFrom 20 = .ok (.putfield 15, 3) := by decide +kernel
theorem dX0_copyFrom_23 : decode cX0_copyFrom 23 = .ok (.aload_n 0, 1) := by decide +kernel
theorem dX0_copyFrom_24 : decode cX0_copyFrom 24 = .ok (.aload_n 1, 1) := by decide +kernel
theorem dX0_copyFrom_25 : decode cX0_copyFrom 25 = .ok (.getfield 19, 3) := by decide +kernel
theorem dX0_copyFrom_28 : decode cX0_copyFrom 28 = .ok (.putfield 19, 3) := by decide +kernel
theorem dX0_copyFrom_31 : decode cX0_copyFrom 31 = .ok (.aload_n 0, 1) := by decide +kernel
theorem dX0_copyFrom_32 : decode cX0_copyFrom 32 = .ok (.aload_n 1, 1) := by decide +kernel
theorem dX0_copyFrom_33 : decode cX0_copyFrom 33 = .ok (.getfield 22, 3) := by decide +kernel
theorem dX0_copyFrom_36 : decode cX0_copyFrom 36 = .ok (.putfield 22, 3) := by decide +kernel
theorem dX0_copyFrom_39 : decode cX0_copyFrom 39 = .ok (.aload_n 0, 1) := by decide +kernel
theorem dX0_copyFrom_40 : decode cX0_copyFrom 40 = .ok (.aload_n 1, 1) := by decide +kernel
theorem dX0_copyFrom_41 : decode cX0_copyFrom 41 = .ok (.getfield 31, 3) := by decide +kernel
theorem dX0_copyFrom_44 : decode cX0_copyFrom 44 = .ok (.putfield 31, 3) := by decide +kernel
theorem dX0_copyFrom_47 : decode cX0_copyFrom 47 = .ok (.aload_n 0, 1) := by decide +kernel
theorem dX0_copyFrom_48 : decode cX0_copyFrom 48 = .ok (.aload_n 1, 1) := by decide +kernel
theorem dX0_copyFrom_49 : decode cX0_copyFrom 49 = .ok (.getfield 35, 3) := by decide +kernel
theorem dX0_copyFrom_52 : decode cX0_copyFrom 52 = .ok (.putfield 35, 3) := by decide +kernel
theorem dX0_copyFrom_55 : decode cX0_copyFrom 55 = .ok (.return_, 1) := by decide +kernel
theorem dX0_openTime_0 : decode cX0_openTime 0 = .ok (.aload_n 0, 1) := by decide +kernel
theorem dX0_openTime_1 : decode cX0_openTime 1 = .ok (.getfield 9, 3) := by decide +kernel
theorem dX0_openTime_4 : decode cX0_openTime 4 = .ok (.iload_n 1, 1) := by decide +kernel
theorem dX0_openTime_5 : decode cX0_openTime 5 = .ok (.bipush 60, 2) := by decide +kernel
theorem dX0_openTime_7 : decode cX0_openTime 7 = .ok (.invokestatic 38, 3) := by decide +kernel
theorem dX0_openTime_10 : decode cX0_openTime 10 = .ok (.iconst 0, 1) := by decide +kernel
theorem dX0_openTime_11 : decode cX0_openTime 11 = .ok (.iastore, 1) := by decide +kernel
theorem dX0_openTime_12 : decode cX0_openTime 12 = .ok (.return_, 1) := by decide +kernel
theorem dX0_addActivation_0 : decode cX0_addActivation 0 = .ok (.aload_n 0, 1) := by decide +kernel
theorem dX0_addActivation_1 : decode cX0_addActivation 1 = .ok (.getfield 9, 3) := by decide +kernel
theorem dX0_addActivation_4 : decode cX0_addActivation 4 = .ok (.iload_n 1, 1) := by decide +kernel
theorem dX0_addActivation_5 : decode cX0_addActivation 5 = .ok (.bipush 60, 2) := by decide +kernel
theorem dX0_addActivation_7 : decode cX0_addActivation 7 = .ok (.invokestatic 38, 3) := by decide +kernel
theorem dX0_addActivation_10 : decode cX0_addActivation 10 = .ok (.dup2, 1) := by decide +kernel
theorem dX0_addActivation_11 : decode cX0_addActivation 11 = .ok (.iaload, 1) := by decide +kernel
theorem dX0_addActivation_12 : decode cX0_addActivation 12 = .ok (.iconst 1, 1) := by decide +kernel
theorem dX0_addActivation_13 : decode cX0_addActivation 13 = .ok (.iadd, 1) := by decide +kernel
theorem dX0_addActivation_14 : decode cX0_addActivation 14 = .ok (.iastore, 1) := by decide +kernel
theorem dX0_addActivation_15 : decode cX0_addActivation 15 = .ok (.return_, 1) := by decide +kernel
theorem dX0_rateAt_0 : decode cX0_rateAt 0 = .ok (.iconst 0, 1) := by decide +kernel
theorem dX0_rateAt_1 : decode cX0_rateAt 1 = .ok (.istore_n 2, 1) := by decide +kernel
theorem dX0_rateAt_2 : decode cX0_rateAt 2 = .ok (.iconst 0, 1) := by decide +kernel
theorem dX0_rateAt_3 : decode cX0_rateAt 3 = .ok (.istore_n 3, 1) := by decide +kernel
theorem dX0_rateAt_4 : decode cX0_rateAt 4 = .ok (.iload_n 3, 1) := by decide +kernel
theorem dX0_rateAt_5 : decode cX0_rateAt 5 = .ok (.aload_n 0, 1) := by decide +kernel
theorem dX0_rateAt_6 : decode cX0_rateAt 6 = .ok (.getfield 15, 3) := by decide +kernel
theorem dX0_rateAt_9 : decode cX0_rateAt 9 = .ok (.if_icmp .ge 30, 3) := by decide +kernel
theorem dX0_rateAt_12 : decode cX0_rateAt 12 = .ok (.iload_n 3, 1) := by decide +kernel
theorem dX0_rateAt_13 : decode cX0_rateAt 13 = .ok (.iload_n 1, 1) := by decide +kernel
theorem dX0_rateAt_14 : decode cX0_rateAt 14 = .ok (.if_icmp .ge 25, 3) := by decide +kernel
theorem dX0_rateAt_17 : decode cX0_rateAt 17 = .ok (.iload_n 2, 1) := by decide +kernel
theorem dX0_rateAt_18 : decode cX0_rateAt 18 = .ok (.aload_n 0, 1) := by decide +kernel
theorem dX0_rateAt_19 : decode cX0_rateAt 19 = .ok (.getfield 9, 3) := by decide +kernel
theorem dX0_rateAt_22 : decode cX0_rateAt 22 = .ok (.iload_n 1, 1) := by decide +kernel
theorem dX0_rateAt_23 : decode cX0_rateAt 23 = .ok (.iload_n 3, 1) := by decide +kernel
theorem dX0_rateAt_24 : decode cX0_rateAt 24 = .ok (.isub, 1) := by decide +kernel
theorem dX0_rateAt_25 : decode cX0_rateAt 25 = .ok (.bipush 60, 2) := by decide +kernel
theorem dX0_rateAt_27 : decode cX0_rateAt 27 = .ok (.invokestatic 38, 3) := by decide +kernel
theorem dX0_rateAt_30 : decode cX0_rateAt 30 = .ok (.iaload, 1) := by decide +kernel
theorem dX0_rateAt_31 : decode cX0_rateAt 31 = .ok (.iadd, 1) := by decide +kernel
theorem dX0_rateAt_32 : decode cX0_rateAt 32 = .ok (.istore_n 2, 1) := by decide +kernel
theorem dX0_rateAt_33 : decode cX0_rateAt 33 = .ok (.iinc 3 1, 3) := by decide +kernel
theorem dX0_rateAt_36 : decode cX0_rateAt 36 = .ok (.goto (-32), 3) := by decide +kernel
theorem dX0_rateAt_39 : decode cX0_rateAt 39 = .ok (.iload_n 2, 1) := by decide +kernel
theorem dX0_rateAt_40 : decode cX0_rateAt 40 = .ok (.ireturn, 1) := by decide +kernel
theorem dX1_init_0 : decode cX1_init 0 = .ok (.aload_n 0, 1) := by decide +kernel
theorem dX1_init_1 : decode cX1_init 1 = .ok (.invokespecial 3, 3) := by decide +kernel
theorem dX1_init_4 : decode cX1_init 4 = .ok (.aload_n 0, 1) := by decide +kernel
theorem dX1_init_5 : decode cX1_init 5 = .ok (.bipush 30, 2) := by decide +kernel
theorem dX1_init_7 : decode cX1_init 7 = .ok (.newarray .int, 2) := by decide +kernel
theorem dX1_init_9 : decode cX1_init 9 = .ok (.putfield 9, 3) := by decide +kernel
theorem dX1_init_12 : decode cX1_init 12 = .ok (.aload_n 0, 1) := by decide +kernel
theorem dX1_init_13 : decode cX1_init 13 = .ok (.bipush 30, 2) := by decide +kernel
theorem dX1_init_15 : decode cX1_init 15 = .ok (.newarray .int, 2) := by decide +kernel
theorem dX1_init_17 : decode cX1_init 17 = .ok (.putfield 15, 3) := by decide +kernel
theorem dX1_init_20 : decode cX1_init 20 = .ok (.aload_n 0, 1) := by decide +kernel
theorem dX1_init_21 : decode cX1_init 21 = .ok (.bipush 30, 2) := by decide +kernel
theorem dX1_init_23 : decode cX1_init 23 = .ok (.newarray .int, 2) := by decide +kernel
theorem dX1_init_25 : decode cX1_init 25 = .ok (.putfield 18, 3) := by decide +kernel
theorem dX1_init_28 : decode cX1_init 28 = .ok (.return_, 1) := by decide +kernel
theorem dX1_copyFrom_0 : decode cX1_copyFrom 0 = .ok (.aload_n 1, 1) := by decide +kernel
theorem dX1_copyFrom_1 : decode cX1_copyFrom 1 = .ok (.getfield 9, 3) := by decide +kernel
theorem dX1_copyFrom_4 : decode cX1_copyFrom 4 = .ok (.iconst 0, 1) := by decide +kernel
theorem dX1_copyFrom_5 : decode cX1_copyFrom 5 = .ok (.aload_n 0, 1) := by decide +kernel
theorem dX1_copyFrom_6 : decode cX1_copyFrom 6 = .ok (.getfield 9, 3) := by decide +kernel
theorem dX1_copyFrom_9 : decode cX1_copyFrom 9 = .ok (.iconst 0, 1) := by decide +kernel
theorem dX1_copyFrom_10 : decode cX1_copyFrom 10 = .ok (.bipush 30, 2) := by decide +kernel
theorem dX1_copyFrom_12 : decode cX1_copyFrom 12 = .ok (.invokestatic 21, 3) := by decide +kernel
theorem dX1_copyFrom_15 : decode cX1_copyFrom 15 = .ok (.aload_n 1, 1) := by decide +kernel
theorem dX1_copyFrom_16 : decode cX1_copyFrom 16 = .ok (.getfield 15, 3) := by decide +kernel
theorem dX1_copyFrom_19 : decode cX1_copyFrom 19 = .ok (.iconst 0, 1) := by decide +kernel
theorem dX1_copyFrom_20 : decode cX1_copyFrom 20 = .ok (.aload_n 0, 1) := by decide +kernel
theorem dX1_copyFrom_21 : decode cX1_copyFrom 21 = .ok (.getfield 15, 3) := by decide +kernel
theorem dX1_copyFrom_24 : decode cX1_copyFrom 24 = .ok (.iconst 0, 1) := by decide +kernel
theorem dX1_copyFrom_25 : decode cX1_copyFrom 25 = .ok (.bipush 30, 2) := by decide +kernel
theorem dX1_copyFrom_27 : decode cX1_copyFrom 27 = .ok (.invokestatic 21, 3) := by decide +kernel
theorem dX1_copyFrom_30 : decode cX1_copyFrom 30 = .ok (.aload_n 1, 1) := by decide +kernel
theorem dX1_copyFrom_31 : decode cX1_copyFrom 31 = .ok (.getfield 18, 3) := by decide +kernel
theorem dX1_copyFrom_34 : decode cX1_copyFrom 34 = .ok (.iconst 0, 1) := by decide +kernel
theorem dX1_copyFrom_35 : decode cX1_copyFrom 35 = .ok (.aload_n 0, 1) := by decide +kernel
theorem dX1_copyFrom_36 : decode cX1_copyFrom 36 = .ok (.getfield 18, 3) := by decide +kernel
theorem dX1_copyFrom_39 : decode cX1_copyFrom 39 = .ok (.iconst 0, 1) := by decide +kernel
theorem dX1_copyFrom_40 : decode cX1_copyFrom 40 = .ok (.bipush 30, 2) := by decide +kernel
theorem dX1_copyFrom_42 : decode cX1_copyFrom 42 = .ok (.invokestatic 21, 3) := by decide +kernel
theorem dX1_copyFrom_45 : decode cX1_copyFrom 45 = .ok (.aload_n 0, 1) := by decide +kernel
theorem dX1_copyFrom_46 : decode cX1_copyFrom 46 = .ok (.aload_n 1, 1) := by decide +kernel
theorem dX1_copyFrom_47 : decode cX1_copyFrom 47 = .ok (.getfield 27, 3) := by decide +kernel
theorem dX1_copyFrom_50 : decode cX1_copyFrom 50 = .ok (.putfield 27, 3) := by decide +kernel
theorem dX1_copyFrom_53 : decode cX1_copyFrom 53 = .ok (.return_, 1) := by decide +kernel
theorem dX1_write_0 : decode cX1_write 0 = .ok (.aload_n 0, 1) := by decide +kernel
theorem dX1_write_1 : decode cX1_write 1 = .ok (.getfield 27, 3) := by decide +kernel
theorem dX1_write_4 : decode cX1_write 4 = .ok (.bipush 30, 2) := by decide +kernel
theorem dX1_write_6 : decode cX1_write 6 = .ok (.invokestatic 31, 3) := by decide +kernel
theorem dX1_write_9 : decode cX1_write 9 = .ok (.istore 4, 2) := by decide +kernel
theorem dX1_write_11 : decode cX1_write 11 = .ok (.aload_n 0, 1) := by decide +kernel
theorem dX1_write_12 : decode cX1_write 12 = .ok (.getfield 9, 3) := by decide +kernel
theorem dX1_write_15 : decode cX1_write 15 = .ok (.iload 4, 2) := by decide +kernel
theorem dX1_write_17 : decode cX1_write 17 = .ok (.iload_n 1, 1) := by decide +kernel
theorem dX1_write_18 : decode cX1_write 18 = .ok (.iastore, 1) := by decide +kernel
theorem dX1_write_19 : decode cX1_write 19 = .ok (.aload_n 0, 1) := by decide +kernel
theorem dX1_write_20 : decode cX1_write 20 = .ok (.getfield 15, 3) := by decide +kernel
theorem dX1_write_23 : decode cX1_write 23 = .ok (.iload 4, 2) := by decide +kernel
theorem dX1_write_25 : decode cX1_write 25 = .ok (.iload_n 2, 1) := by decide +kernel
theorem dX1_write_26 : decode cX1_write 26 = .ok (.iastore, 1) := by decide +kernel
theorem dX1_write_27 : decode cX1_write 27 = .ok (.aload_n 0, 1) := by decide +kernel
theorem dX1_write_28 : decode cX1_write 28 = .ok (.getfield 18, 3) := by decide +kernel
theorem dX1_write_31 : decode cX1_write 31 = .ok (.iload 4, 2) := by decide +kernel
theorem dX1_write_33 : decode cX1_write 33 = .ok (.iload_n 3, 1) := by decide +kernel
theorem dX1_write_34 : decode cX1_write 34 = .ok (.iastore, 1) := by decide +kernel
theorem dX1_write_35 : decode cX1_write 35 = .ok (.aload_n 0, 1) := by decide +kernel
theorem dX1_write_36 : decode cX1_write 36 = .ok (.dup, 1) := by decide +kernel
theorem dX1_write_37 : decode cX1_write 37 = .ok (.getfield 27, 3) := by decide +kernel
theorem dX1_write_40 : decode cX1_write 40 = .ok (.iconst 1, 1) := by decide +kernel
theorem dX1_write_41 : decode cX1_write 41 = .ok (.iadd, 1) := by decide +kernel
theorem dX1_write_42 : decode cX1_write 42 = .ok (.putfield 27, 3) := by decide +kernel
theorem dX1_write_45 : decode cX1_write 45 = .ok (.return_, 1) := by decide +kernel
theorem dX1_kept_0 : decode cX1_kept 0 = .ok (.aload_n 0, 1) := by decide +kernel
theorem dX1_kept_1 : decode cX1_kept 1 = .ok (.getfield 27, 3) := by decide +kernel
theorem dX1_kept_4 : decode cX1_kept 4 = .ok (.bipush 30, 2) := by decide +kernel
theorem dX1_kept_6 : decode cX1_kept 6 = .ok (.invokestatic 37, 3) := by decide +kernel
theorem dX1_kept_9 : decode cX1_kept 9 = .ok (.ireturn, 1) := by decide +kernel
theorem dX1_eventNumber_0 : decode cX1_eventNumber 0 = .ok (.aload_n 0, 1) := by decide +kernel
theorem dX1_eventNumber_1 : decode cX1_eventNumber 1 = .ok (.getfield 27, 3) := by decide +kernel
theorem dX1_eventNumber_4 : decode cX1_eventNumber 4 = .ok (.iconst 1, 1) := by decide +kernel
theorem dX1_eventNumber_5 : decode cX1_eventNumber 5 = .ok (.isub, 1) := by decide +kernel
theorem dX1_eventNumber_6 : decode cX1_eventNumber 6 = .ok (.iload_n 1, 1) := by decide +kernel
theorem dX1_eventNumber_7 : decode cX1_eventNumber 7 = .ok (.isub, 1) := by decide +kernel
theorem dX1_eventNumber_8 : decode cX1_eventNumber 8 = .ok (.bipush 30, 2) := by decide +kernel
theorem dX1_eventNumber_10 : decode cX1_eventNumber 10 = .ok (.invokestatic 31, 3) := by decide +kernel
theorem dX1_eventNumber_13 : decode cX1_eventNumber 13 = .ok (.istore_n 3, 1) := by decide +kernel
theorem dX1_eventNumber_14 : decode cX1_eventNumber 14 = .ok (.iload_n 2, 1) := by decide +kernel
theorem dX1_eventNumber_15 : decode cX1_eventNumber 15 = .ok (.ifCond .ne 10, 3) := by decide +kernel
theorem dX1_eventNumber_18 : decode cX1_eventNumber 18 = .ok (.aload_n 0, 1) := by decide +kernel
theorem dX1_eventNumber_19 : decode cX1_eventNumber 19 = .ok (.getfield 9, 3) := by decide +kernel
theorem dX1_eventNumber_22 : decode cX1_eventNumber 22 = .ok (.iload_n 3, 1) := by decide +kernel
theorem dX1_eventNumber_23 : decode cX1_eventNumber 23 = .ok (.iaload, 1) := by decide +kernel
theorem dX1_eventNumber_24 : decode cX1_eventNumber 24 = .ok (.ireturn, 1) := by decide +kernel
theorem dX1_eventNumber_25 : decode cX1_eventNumber 25 = .ok (.iload_n 2, 1) := by decide +kernel
theorem dX1_eventNumber_26 : decode cX1_eventNumber 26 = .ok (.iconst 1, 1) := by decide +kernel
theorem dX1_eventNumber_27 : decode cX1_eventNumber 27 = .ok (.if_icmp .ne 12, 3) := by decide +kernel
theorem dX1_eventNumber_30 : decode cX1_eventNumber 30 = .ok (.aload_n 0, 1) := by decide +kernel
theorem dX1_eventNumber_31 : decode cX1_eventNumber 31 = .ok (.getfield 15, 3) := by decide +kernel
theorem dX1_eventNumber_34 : decode cX1_eventNumber 34 = .ok (.iload_n 3, 1) := by decide +kernel
theorem dX1_eventNumber_35 : decode cX1_eventNumber 35 = .ok (.iaload, 1) := by decide +kernel
theorem dX1_eventNumber_36 : decode cX1_eventNumber 36 = .ok (.goto 9, 3) := by decide +kernel
theorem dX1_eventNumber_39 : decode cX1_eventNumber 39 = .ok (.aload_n 0, 1) := by decide +kernel
theorem dX1_eventNumber_40 : decode cX1_eventNumber 40 = .ok (.getfield 18, 3) := by decide +kernel
theorem dX1_eventNumber_43 : decode cX1_eventNumber 43 = .ok (.iload_n 3, 1) := by decide +kernel
theorem dX1_eventNumber_44 : decode cX1_eventNumber 44 = .ok (.iaload, 1) := by decide +kernel
theorem dX1_eventNumber_45 : decode cX1_eventNumber 45 = .ok (.ireturn, 1) := by decide +kernel
theorem dX1_activationsOf_0 : decode cX1_activationsOf 0 = .ok (.iconst 0, 1) := by decide +kernel
theorem dX1_activationsOf_1 : decode cX1_activationsOf 1 = .ok (.istore_n 2, 1) := by decide +kernel
theorem dX1_activationsOf_2 : decode cX1_activationsOf 2 = .ok (.iconst 0, 1) := by decide +kernel
theorem dX1_activationsOf_3 : decode cX1_activationsOf 3 = .ok (.istore_n 3, 1) := by decide +kernel
theorem dX1_activationsOf_4 : decode cX1_activationsOf 4 = .ok (.iload_n 3, 1) := by decide +kernel
theorem dX1_activationsOf_5 : decode cX1_activationsOf 5 = .ok (.aload_n 0, 1) := by decide +kernel
theorem dX1_activationsOf_6 : decode cX1_activationsOf 6 = .ok (.invokevirtual 40, 3) := by decide +kernel
theorem dX1_activationsOf_9 : decode cX1_activationsOf 9 = .ok (.if_icmp .ge 32, 3) := by decide +kernel
theorem dX1_activationsOf_12 : decode cX1_activationsOf 12 = .ok (.aload_n 0, 1) := by decide +kernel
theorem dX1_activationsOf_13 : decode cX1_activationsOf 13 = .ok (.getfield 15, 3) := by decide +kernel
theorem dX1_activationsOf_16 : decode cX1_activationsOf 16 = .ok (.iload_n 3, 1) := by decide +kernel
theorem dX1_activationsOf_17 : decode cX1_activationsOf 17 = .ok (.iaload, 1) := by decide +kernel
theorem dX1_activationsOf_18 : decode cX1_activationsOf 18 = .ok (.iconst 1, 1) := by decide +kernel
theorem dX1_activationsOf_19 : decode cX1_activationsOf 19 = .ok (.if_icmp .ne 16, 3) := by decide +kernel
theorem dX1_activationsOf_22 : decode cX1_activationsOf 22 = .ok (.aload_n 0, 1) := by decide +kernel
theorem dX1_activationsOf_23 : decode cX1_activationsOf 23 = .ok (.getfield 18, 3) := by decide +kernel
theorem dX1_activationsOf_26 : decode cX1_activationsOf 26 = .ok (.iload_n 3, 1) := by decide +kernel
theorem dX1_activationsOf_27 : decode cX1_activationsOf 27 = .ok (.iaload, 1) := by decide +kernel
theorem dX1_activationsOf_28 : decode cX1_activationsOf 28 = .ok (.iload_n 1, 1) := by decide +kernel
theorem dX1_activationsOf_29 : decode cX1_activationsOf 29 = .ok (.if_icmp .ne 6, 3) := by decide +kernel
theorem dX1_activationsOf_32 : decode cX1_activationsOf 32 = .ok (.iinc 2 1, 3) := by decide +kernel
theorem dX1_activationsOf_35 : decode cX1_activationsOf 35 = .ok (.iinc 3 1, 3) := by decide +kernel
theorem dX1_activationsOf_38 : decode cX1_activationsOf 38 = .ok (.goto (-34), 3) := by decide +kernel
theorem dX1_activationsOf_41 : decode cX1_activationsOf 41 = .ok (.iload_n 2, 1) := by decide +kernel
theorem dX1_activationsOf_42 : decode cX1_activationsOf 42 = .ok (.ireturn, 1) := by decide +kernel
theorem dX2_init_0 : decode cX2_init 0 = .ok (.aload_n 0, 1) := by decide +kernel
theorem dX2_init_1 : decode cX2_init 1 = .ok (.invokespecial 3, 3) := by decide +kernel
theorem dX2_init_4 : decode cX2_init 4 = .ok (.aload_n 0, 1) := by decide +kernel
theorem dX2_init_5 : decode cX2_init 5 = .ok (.bipush 7, 2) := by decide +kernel
theorem dX2_init_7 : decode cX2_init 7 = .ok (.newarray .int, 2) := by decide +kernel
theorem dX2_init_9 : decode cX2_init 9 = .ok (.putfield 9, 3) := by decide +kernel
theorem dX2_init_12 : decode cX2_init 12 = .ok (.aload_n 0, 1) := by decide +kernel
theorem dX2_init_13 : decode cX2_init 13 = .ok (.bipush 40, 2) := by decide +kernel
theorem dX2_init_15 : decode cX2_init 15 = .ok (.newarray .int, 2) := by decide +kernel
theorem dX2_init_17 : decode cX2_init 17 = .ok (.putfield 15, 3) := by decide +kernel
theorem dX2_init_20 : decode cX2_init 20 = .ok (.return_, 1) := by decide +kernel
theorem dX2_begin_0 : decode cX2_begin 0 = .ok (.iconst 0, 1) := by decide +kernel
theorem dX2_begin_1 : decode cX2_begin 1 = .ok (.istore_n 3, 1) := by decide +kernel
theorem dX2_begin_2 : decode cX2_begin 2 = .ok (.iload_n 3, 1) := by decide +kernel
theorem dX2_begin_3 : decode cX2_begin 3 = .ok (.bipush 7, 2) := by decide +kernel
theorem dX2_begin_5 : decode cX2_begin 5 = .ok (.if_icmp .ge 16, 3) := by decide +kernel
theorem dX2_begin_8 : decode cX2_begin 8 = .ok (.aload_n 0, 1) := by decide +kernel
theorem dX2_begin_9 : decode cX2_begin 9 = .ok (.getfield 9, 3) := by decide +kernel
theorem dX2_begin_12 : decode cX2_begin 12 = .ok (.iload_n 3, 1) := by decide +kernel
theorem dX2_begin_13 : decode cX2_begin 13 = .ok (.iconst 0, 1) := by decide +kernel
theorem dX2_begin_14 : decode cX2_begin 14 = .ok (.iastore, 1) := by decide +kernel
theorem dX2_begin_15 : decode cX2_begin 15 = .ok (.iinc 3 1, 3) := by decide +kernel
theorem dX2_begin_18 : decode cX2_begin 18 = .ok (.goto (-16), 3) := by decide +kernel
theorem dX2_begin_21 : decode cX2_begin 21 = .ok (.aload_n 0, 1) := by decide +kernel
theorem dX2_begin_22 : decode cX2_begin 22 = .ok (.getfield 9, 3) := by decide +kernel
theorem dX2_begin_25 : decode cX2_begin 25 = .ok (.iconst 1, 1) := by decide +kernel
theorem dX2_begin_26 : decode cX2_begin 26 = .ok (.iload_n 1, 1) := by decide +kernel
theorem dX2_begin_27 : decode cX2_begin 27 = .ok (.iastore, 1) := by decide +kernel
theorem dX2_begin_28 : decode cX2_begin 28 = .ok (.aload_n 0, 1) := by decide +kernel
theorem dX2_begin_29 : decode cX2_begin 29 = .ok (.getfield 9, 3) := by decide +kernel
theorem dX2_begin_32 : decode cX2_begin 32 = .ok (.iconst 5, 1) := by decide +kernel
theorem dX2_begin_33 : decode cX2_begin 33 = .ok (.iload_n 2, 1) := by decide +kernel
theorem dX2_begin_34 : decode cX2_begin 34 = .ok (.iastore, 1) := by decide +kernel
theorem dX2_begin_35 : decode cX2_begin 35 = .ok (.aload_n 0, 1) := by decide +kernel
theorem dX2_begin_36 : decode cX2_begin 36 = .ok (.iconst 0, 1) := by decide +kernel
theorem dX2_begin_37 : decode cX2_begin 37 = .ok (.putfield 18, 3) := by decide +kernel
theorem dX2_begin_40 : decode cX2_begin 40 = .ok (.aload_n 0, 1) := by decide +kernel
theorem dX2_begin_41 : decode cX2_begin 41 = .ok (.iconst 0, 1) := by decide +kernel
theorem dX2_begin_42 : decode cX2_begin 42 = .ok (.putfield 22, 3) := by decide +kernel
theorem dX2_begin_45 : decode cX2_begin 45 = .ok (.aload_n 0, 1) := by decide +kernel
theorem dX2_begin_46 : decode cX2_begin 46 = .ok (.iconst (-1), 1) := by decide +kernel
theorem dX2_begin_47 : decode cX2_begin 47 = .ok (.putfield 25, 3) := by decide +kernel
theorem dX2_begin_50 : decode cX2_begin 50 = .ok (.aload_n 0, 1) := by decide +kernel
theorem dX2_begin_51 : decode cX2_begin 51 = .ok (.iconst 0, 1) := by decide +kernel
theorem dX2_begin_52 : decode cX2_begin 52 = .ok (.putfield 28, 3) := by decide +kernel
theorem dX2_begin_55 : decode cX2_begin 55 = .ok (.aload_n 0, 1) := by decide +kernel
theorem dX2_begin_56 : decode cX2_begin 56 = .ok (.iconst 1, 1) := by decide +kernel
theorem dX2_begin_57 : decode cX2_begin 57 = .ok (.putfield 32, 3) := by decide +kernel
theorem dX2_begin_60 : decode cX2_begin 60 = .ok (.aload_n 0, 1) := by decide +kernel
theorem dX2_begin_61 : decode cX2_begin 61 = .ok (.iconst 0, 1) := by decide +kernel
theorem dX2_begin_62 : decode cX2_begin 62 = .ok (.putfield 35, 3) := by decide +kernel
theorem dX2_begin_65 : decode cX2_begin 65 = .ok (.aload_n 0, 1) := by decide +kernel
theorem dX2_begin_66 : decode cX2_begin 66 = .ok (.iconst 0, 1) := by decide +kernel
theorem dX2_begin_67 : decode cX2_begin 67 = .ok (.putfield 38, 3) := by decide +kernel
theorem dX2_begin_70 : decode cX2_begin 70 = .ok (.aload_n 0, 1) := by decide +kernel
theorem dX2_begin_71 : decode cX2_begin 71 = .ok (.iconst 0, 1) := by decide +kernel
theorem dX2_begin_72 : decode cX2_begin 72 = .ok (.putfield 41, 3) := by decide +kernel
theorem dX2_begin_75 : decode cX2_begin 75 = .ok (.aload_n 0, 1) := by decide +kernel
theorem dX2_begin_76 : decode cX2_begin 76 = .ok (.iconst 0, 1) := by decide +kernel
theorem dX2_begin_77 : decode cX2_begin 77 = .ok (.putfield 44, 3) := by decide +kernel
theorem dX2_begin_80 : decode cX2_begin 80 = .ok (.return_, 1) := by decide +kernel
theorem dX2_copyFrom_0 : decode cX2_copyFrom 0 = .ok (.aload_n 1, 1) := by decide +kernel
theorem dX2_copyFrom_1 : decode cX2_copyFrom 1 = .ok (.getfield 9, 3) := by decide +kernel
theorem dX2_copyFrom_4 : decode cX2_copyFrom 4 = .ok (.iconst 0, 1) := by decide +kernel
theorem dX2_copyFrom_5 : decode cX2_copyFrom 5 = .ok (.aload_n 0, 1) := by decide +kernel
theorem dX2_copyFrom_6 : decode cX2_copyFrom 6 = .ok (.getfield 9, 3) := by decide +kernel
theorem dX2_copyFrom_9 : decode cX2_copyFrom 9 = .ok (.iconst 0, 1) := by decide +kernel
theorem dX2_copyFrom_10 : decode cX2_copyFrom 10 = .ok (.bipush 7, 2) := by decide +kernel
theorem dX2_copyFrom_12 : decode cX2_copyFrom 12 = .ok (.invokestatic 47, 3) := by decide +kernel
theorem dX2_copyFrom_15 : decode cX2_copyFrom 15 = .ok (.aload_n 1, 1) := by decide +kernel
theorem dX2_copyFrom_16 : decode cX2_copyFrom 16 = .ok (.getfield 15, 3) := by decide +kernel
theorem dX2_copyFrom_19 : decode cX2_copyFrom 19 = .ok (.iconst 0, 1) := by decide +kernel
theorem dX2_copyFrom_20 : decode cX2_copyFrom 20 = .ok (.aload_n 0, 1) := by decide +kernel
theorem dX2_copyFrom_21 : decode cX2_copyFrom 21 = .ok (.getfield 15, 3) := by decide +kernel
theorem dX2_copyFrom_24 : decode cX2_copyFrom 24 = .ok (.iconst 0, 1) := by decide +kernel
theorem dX2_copyFrom_25 : decode cX2_copyFrom 25 = .ok (.bipush 40, 2) := by decide +kernel
theorem dX2_copyFrom_27 : decode cX2_copyFrom 27 = .ok (.invokestatic 47, 3) := by decide +kernel
theorem dX2_copyFrom_30 : decode cX2_copyFrom 30 = .ok (.aload_n 0, 1) := by decide +kernel
theorem dX2_copyFrom_31 : decode cX2_copyFrom 31 = .ok (.aload_n 1, 1) := by decide +kernel
theorem dX2_copyFrom_32 : decode cX2_copyFrom 32 = .ok (.getfield 18, 3) := by decide +kernel
theorem dX2_copyFrom_35 : decode cX2_copyFrom 35 = .ok (.putfield 18, 3) := by decide +kernel
theorem dX2_copyFrom_38 : decode cX2_copyFrom 38 = .ok (.aload_n 0, 1) := by decide +kernel
theorem dX2_copyFrom_39 : decode cX2_copyFrom 39 = .ok (.aload_n 1, 1) := by decide +kernel
theorem dX2_copyFrom_40 : decode cX2_copyFrom 40 = .ok (.getfield 22, 3) := by decide +kernel
theorem dX2_copyFrom_43 : decode cX2_copyFrom 43 = .ok (.putfield 22, 3) := by decide +kernel
theorem dX2_copyFrom_46 : decode cX2_copyFrom 46 = .ok (.aload_n 0, 1) := by decide +kernel
theorem dX2_copyFrom_47 : decode cX2_copyFrom 47 = .ok (.aload_n 1, 1) := by decide +kernel
theorem dX2_copyFrom_48 : decode cX2_copyFrom 48 = .ok (.getfield 25, 3) := by decide +kernel
theorem dX2_copyFrom_51 : decode cX2_copyFrom 51 = .ok (.putfield 25, 3) := by decide +kernel
theorem dX2_copyFrom_54 : decode cX2_copyFrom 54 = .ok (.aload_n 0, 1) := by decide +kernel
theorem dX2_copyFrom_55 : decode cX2_copyFrom 55 = .ok (.aload_n 1, 1) := by decide +kernel
theorem dX2_copyFrom_56 : decode cX2_copyFrom 56 = .ok (.getfield 28, 3) := by decide +kernel
theorem dX2_copyFrom_59 : decode cX2_copyFrom 59 = .ok (.putfield 28, 3) := by decide +kernel
theorem dX2_copyFrom_62 : decode cX2_copyFrom 62 = .ok (.aload_n 0, 1) := by decide +kernel
theorem dX2_copyFrom_63 : decode cX2_copyFrom 63 = .ok (.aload_n 1, 1) := by decide +kernel
theorem dX2_copyFrom_64 : decode cX2_copyFrom 64 = .ok (.getfield 32, 3) := by decide +kernel
theorem dX2_copyFrom_67 : decode cX2_copyFrom 67 = .ok (.putfield 32, 3) := by decide +kernel
theorem dX2_copyFrom_70 : decode cX2_copyFrom 70 = .ok (.aload_n 0, 1) := by decide +kernel
theorem dX2_copyFrom_71 : decode cX2_copyFrom 71 = .ok (.aload_n 1, 1) := by decide +kernel
theorem dX2_copyFrom_72 : decode cX2_copyFrom 72 = .ok (.getfield 35, 3) := by decide +kernel
theorem dX2_copyFrom_75 : decode cX2_copyFrom 75 = .ok (.putfield 35, 3) := by decide +kernel
theorem dX2_copyFrom_78 : decode cX2_copyFrom 78 = .ok (.aload_n 0, 1) := by decide +kernel
theorem dX2_copyFrom_79 : decode cX2_copyFrom 79 = .ok (.aload_n 1, 1) := by decide +kernel
theorem dX2_copyFrom_80 : decode cX2_copyFrom 80 = .ok (.getfield 38, 3) := by decide +kernel
theorem dX2_copyFrom_83 : decode cX2_copyFrom 83 = .ok (.putfield 38, 3) := by decide +kernel
theorem dX2_copyFrom_86 : decode cX2_copyFrom 86 = .ok (.aload_n 0, 1) := by decide +kernel
theorem dX2_copyFrom_87 : decode cX2_copyFrom 87 = .ok (.aload_n 1, 1) := by decide +kernel
theorem dX2_copyFrom_88 : decode cX2_copyFrom 88 = .ok (.getfield 41, 3) := by decide +kernel
theorem dX2_copyFrom_91 : decode cX2_copyFrom 91 = .ok (.putfield 41, 3) := by decide +kernel
theorem dX2_copyFrom_94 : decode cX2_copyFrom 94 = .ok (.aload_n 0, 1) := by decide +kernel
theorem dX2_copyFrom_95 : decode cX2_copyFrom 95 = .ok (.aload_n 1, 1) := by decide +kernel
theorem dX2_copyFrom_96 : decode cX2_copyFrom 96 = .ok (.getfield 44, 3) := by decide +kernel
theorem dX2_copyFrom_99 : decode cX2_copyFrom 99 = .ok (.putfield 44, 3) := by decide +kernel
theorem dX2_copyFrom_102 : decode cX2_copyFrom 102 = .ok (.return_, 1) := by decide +kernel
theorem dX2_stands_0 : decode cX2_stands 0 = .ok (.aload_n 0, 1) := by decide +kernel
theorem dX2_stands_1 : decode cX2_stands 1 = .ok (.getfield 28, 3) := by decide +kernel
theorem dX2_stands_4 : decode cX2_stands 4 = .ok (.ifCond .ne 10, 3) := by decide +kernel
theorem dX2_stands_7 : decode cX2_stands 7 = .ok (.aload_n 0, 1) := by decide +kernel
theorem dX2_stands_8 : decode cX2_stands 8 = .ok (.getfield 32, 3) := by decide +kernel
theorem dX2_stands_11 : decode cX2_stands 11 = .ok (.ifCond .ne 7, 3) := by decide +kernel
theorem dX2_stands_14 : decode cX2_stands 14 = .ok (.iconst 1, 1) := by decide +kernel
theorem dX2_stands_15 : decode cX2_stands 15 = .ok (.goto 4, 3) := by decide +kernel
theorem dX2_stands_18 : decode cX2_stands 18 = .ok (.iconst 0, 1) := by decide +kernel
theorem dX2_stands_19 : decode cX2_stands 19 = .ok (.ireturn, 1) := by decide +kernel
theorem dX2_isShelved_0 : decode cX2_isShelved 0 = .ok (.aload_n 0, 1) := by decide +kernel
theorem dX2_isShelved_1 : decode cX2_isShelved 1 = .ok (.getfield 41, 3) := by decide +kernel
theorem dX2_isShelved_4 : decode cX2_isShelved 4 = .ok (.ifCond .le 7, 3) := by decide +kernel
theorem dX2_isShelved_7 : decode cX2_isShelved 7 = .ok (.iconst 1, 1) := by decide +kernel
theorem dX2_isShelved_8 : decode cX2_isShelved 8 = .ok (.goto 4, 3) := by decide +kernel
theorem dX2_isShelved_11 : decode cX2_isShelved 11 = .ok (.iconst 0, 1) := by decide +kernel
theorem dX2_isShelved_12 : decode cX2_isShelved 12 = .ok (.ireturn, 1) := by decide +kernel
theorem dX2_hasHighestPriority_0 : decode cX2_hasHighestPriority 0 = .ok (.aload_n 0, 1) := by decide +kernel
theorem dX2_hasHighestPriority_1 : decode cX2_hasHighestPriority 1 = .ok (.getfield 9, 3) := by decide +kernel
theorem dX2_hasHighestPriority_4 : decode cX2_hasHighestPriority 4 = .ok (.iconst 5, 1) := by decide +kernel
theorem dX2_hasHighestPriority_5 : decode cX2_hasHighestPriority 5 = .ok (.iaload, 1) := by decide +kernel
theorem dX2_hasHighestPriority_6 : decode cX2_hasHighestPriority 6 = .ok (.iconst 1, 1) := by decide +kernel
theorem dX2_hasHighestPriority_7 : decode cX2_hasHighestPriority 7 = .ok (.if_icmp .ne 7, 3) := by decide +kernel
theorem dX2_hasHighestPriority_10 : decode cX2_hasHighestPriority 10 = .ok (.iconst 1, 1) := by decide +kernel
theorem dX2_hasHighestPriority_11 : decode cX2_hasHighestPriority 11 = .ok (.goto 4, 3) := by decide +kernel
theorem dX2_hasHighestPriority_14 : decode cX2_hasHighestPriority 14 = .ok (.iconst 0, 1) := by decide +kernel
theorem dX2_hasHighestPriority_15 : decode cX2_hasHighestPriority 15 = .ok (.ireturn, 1) := by decide +kernel
theorem dX2_isTurning_0 : decode cX2_isTurning 0 = .ok (.aload_n 0, 1) := by decide +kernel
theorem dX2_isTurning_1 : decode cX2_isTurning 1 = .ok (.getfield 28, 3) := by decide +kernel
theorem dX2_isTurning_4 : decode cX2_isTurning 4 = .ok (.ifCond .eq 20, 3) := by decide +kernel
theorem dX2_isTurning_7 : decode cX2_isTurning 7 = .ok (.aload_n 0, 1) := by decide +kernel
theorem dX2_isTurning_8 : decode cX2_isTurning 8 = .ok (.aload_n 0, 1) := by decide +kernel
theorem dX2_isTurning_9 : decode cX2_isTurning 9 = .ok (.getfield 22, 3) := by decide +kernel
theorem dX2_isTurning_12 : decode cX2_isTurning 12 = .ok (.aload_n 0, 1) := by decide +kernel
theorem dX2_isTurning_13 : decode cX2_isTurning 13 = .ok (.getfield 9, 3) := by decide +kernel
theorem dX2_isTurning_16 : decode cX2_isTurning 16 = .ok (.iconst 2, 1) := by decide +kernel
theorem dX2_isTurning_17 : decode cX2_isTurning 17 = .ok (.iaload, 1) := by decide +kernel
theorem dX2_isTurning_18 : decode cX2_isTurning 18 = .ok (.invokevirtual 53, 3) := by decide +kernel
theorem dX2_isTurning_21 : decode cX2_isTurning 21 = .ok (.goto 11, 3) := by decide +kernel
theorem dX2_isTurning_24 : decode cX2_isTurning 24 = .ok (.aload_n 0, 1) := by decide +kernel
theorem dX2_isTurning_25 : decode cX2_isTurning 25 = .ok (.aload_n 0, 1) := by decide +kernel
theorem dX2_isTurning_26 : decode cX2_isTurning 26 = .ok (.getfield 22, 3) := by decide +kernel
theorem dX2_isTurning_29 : decode cX2_isTurning 29 = .ok (.invokevirtual 57, 3) := by decide +kernel
theorem dX2_isTurning_32 : decode cX2_isTurning 32 = .ok (.ireturn, 1) := by decide +kernel
theorem dX2_delayOf_0 : decode cX2_delayOf 0 = .ok (.iload_n 1, 1) := by decide +kernel
theorem dX2_delayOf_1 : decode cX2_delayOf 1 = .ok (.ifCond .eq 12, 3) := by decide +kernel
theorem dX2_delayOf_4 : decode cX2_delayOf 4 = .ok (.aload_n 0, 1) := by decide +kernel
theorem dX2_delayOf_5 : decode cX2_delayOf 5 = .ok (.getfield 9, 3) := by decide +kernel
theorem dX2_delayOf_8 : decode cX2_delayOf 8 = .ok (.iconst 4, 1) := by decide +kernel
theorem dX2_delayOf_9 : decode cX2_delayOf 9 = .ok (.iaload, 1) := by decide +kernel
theorem dX2_delayOf_10 : decode cX2_delayOf 10 = .ok (.goto 9, 3) := by decide +kernel
theorem dX2_delayOf_13 : decode cX2_delayOf 13 = .ok (.aload_n 0, 1) := by decide +kernel
theorem dX2_delayOf_14 : decode cX2_delayOf 14 = .ok (.getfield 9, 3) := by decide +kernel
theorem dX2_delayOf_17 : decode cX2_delayOf 17 = .ok (.iconst 3, 1) := by decide +kernel
theorem dX2_delayOf_18 : decode cX2_delayOf 18 = .ok (.iaload, 1) := by decide +kernel
theorem dX2_delayOf_19 : decode cX2_delayOf 19 = .ok (.ireturn, 1) := by decide +kernel
theorem dX2_isOver_0 : decode cX2_isOver 0 = .ok (.aload_n 0, 1) := by decide +kernel
theorem dX2_isOver_1 : decode cX2_isOver 1 = .ok (.getfield 9, 3) := by decide +kernel
theorem dX2_isOver_4 : decode cX2_isOver 4 = .ok (.iconst 0, 1) := by decide +kernel
theorem dX2_isOver_5 : decode cX2_isOver 5 = .ok (.iaload, 1) := by decide +kernel
theorem dX2_isOver_6 : decode cX2_isOver 6 = .ok (.ifCond .ne 21, 3) := by decide +kernel
theorem dX2_isOver_9 : decode cX2_isOver 9 = .ok (.iload_n 1, 1) := by decide +kernel
theorem dX2_isOver_10 : decode cX2_isOver 10 = .ok (.aload_n 0, 1) := by decide +kernel
theorem dX2_isOver_11 : decode cX2_isOver 11 = .ok (.getfield 9, 3) := by decide +kernel
theorem dX2_isOver_14 : decode cX2_isOver 14 = .ok (.iconst 1, 1) := by decide +kernel
theorem dX2_isOver_15 : decode cX2_isOver 15 = .ok (.iaload, 1) := by decide +kernel
theorem dX2_isOver_16 : decode cX2_isOver 16 = .ok (.if_icmp .lt 7, 3) := by decide +kernel
theorem dX2_isOver_19 : decode cX2_isOver 19 = .ok (.iconst 1, 1) := by decide +kernel
theorem dX2_isOver_20 : decode cX2_isOver 20 = .ok (.goto 22, 3) := by decide +kernel
theorem dX2_isOver_23 : decode cX2_isOver 23 = .ok (.iconst 0, 1) := by decide +kernel
theorem dX2_isOver_24 : decode cX2_isOver 24 = .ok (.goto 18, 3) := by decide +kernel
theorem dX2_isOver_27 : decode cX2_isOver 27 = .ok (.iload_n 1, 1) := by decide +kernel
theorem dX2_isOver_28 : decode cX2_isOver 28 = .ok (.aload_n 0, 1) := by decide +kernel
theorem dX2_isOver_29 : decode cX2_isOver 29 = .ok (.getfield 9, 3) := by decide +kernel
theorem dX2_isOver_32 : decode cX2_isOver 32 = .ok (.iconst 1, 1) := by decide +kernel
theorem dX2_isOver_33 : decode cX2_isOver 33 = .ok (.iaload, 1) := by decide +kernel
theorem dX2_isOver_34 : decode cX2_isOver 34 = .ok (.if_icmp .gt 7, 3) := by decide +kernel
theorem dX2_isOver_37 : decode cX2_isOver 37 = .ok (.iconst 1, 1) := by decide +kernel
theorem dX2_isOver_38 : decode cX2_isOver 38 = .ok (.goto 4, 3) := by decide +kernel
theorem dX2_isOver_41 : decode cX2_isOver 41 = .ok (.iconst 0, 1) := by decide +kernel
theorem dX2_isOver_42 : decode cX2_isOver 42 = .ok (.ireturn, 1) := by decide +kernel
theorem dX2_isClear_0 : decode cX2_isClear 0 = .ok (.aload_n 0, 1) := by decide +kernel
theorem dX2_isClear_1 : decode cX2_isClear 1 = .ok (.getfield 9, 3) := by decide +kernel
theorem dX2_isClear_4 : decode cX2_isClear 4 = .ok (.iconst 0, 1) := by decide +kernel
theorem dX2_isClear_5 : decode cX2_isClear 5 = .ok (.iaload, 1) := by decide +kernel
theorem dX2_isClear_6 : decode cX2_isClear 6 = .ok (.ifCond .ne 23, 3) := by decide +kernel
theorem dX2_isClear_9 : decode cX2_isClear 9 = .ok (.iload_n 1, 1) := by decide +kernel
theorem dX2_isClear_10 : decode cX2_isClear 10 = .ok (.aload_n 0, 1) := by decide +kernel
theorem dX2_isClear_11 : decode cX2_isClear 11 = .ok (.getfield 9, 3) := by decide +kernel
theorem dX2_isClear_14 : decode cX2_isClear 14 = .ok (.iconst 1, 1) := by decide +kernel
theorem dX2_isClear_15 : decode cX2_isClear 15 = .ok (.iaload, 1) := by decide +kernel
theorem dX2_isClear_16 : decode cX2_isClear 16 = .ok (.iload_n 2, 1) := by decide +kernel
theorem dX2_isClear_17 : decode cX2_isClear 17 = .ok (.isub, 1) := by decide +kernel
theorem dX2_isClear_18 : decode cX2_isClear 18 = .ok (.if_icmp .ge 7, 3) := by decide +kernel
theorem dX2_isClear_21 : decode cX2_isClear 21 = .ok (.iconst 1, 1) := by decide +kernel
theorem dX2_isClear_22 : decode cX2_isClear 22 = .ok (.goto 24, 3) := by decide +kernel
theorem dX2_isClear_25 : decode cX2_isClear 25 = .ok (.iconst 0, 1) := by decide +kernel
theorem dX2_isClear_26 : decode cX2_isClear 26 = .ok (.goto 20, 3) := by decide +kernel
theorem dX2_isClear_29 : decode cX2_isClear 29 = .ok (.iload_n 1, 1) := by decide +kernel
theorem dX2_isClear_30 : decode cX2_isClear 30 = .ok (.aload_n 0, 1) := by decide +kernel
theorem dX2_isClear_31 : decode cX2_isClear 31 = .ok (.getfield 9, 3) := by decide +kernel
theorem dX2_isClear_34 : decode cX2_isClear 34 = .ok (.iconst 1, 1) := by decide +kernel
theorem dX2_isClear_35 : decode cX2_isClear 35 = .ok (.iaload, 1) := by decide +kernel
theorem dX2_isClear_36 : decode cX2_isClear 36 = .ok (.iload_n 2, 1) := by decide +kernel
theorem dX2_isClear_37 : decode cX2_isClear 37 = .ok (.iadd, 1) := by decide +kernel
theorem dX2_isClear_38 : decode cX2_isClear 38 = .ok (.if_icmp .le 7, 3) := by decide +kernel
theorem dX2_isClear_41 : decode cX2_isClear 41 = .ok (.iconst 1, 1) := by decide +kernel
theorem dX2_isClear_42 : decode cX2_isClear 42 = .ok (.goto 4, 3) := by decide +kernel
theorem dX2_isClear_45 : decode cX2_isClear 45 = .ok (.iconst 0, 1) := by decide +kernel
theorem dX2_isClear_46 : decode cX2_isClear 46 = .ok (.ireturn, 1) := by decide +kernel
theorem dX2_putDownValue_0 : decode cX2_putDownValue 0 = .ok (.aload_n 0, 1) := by decide +kernel
theorem dX2_putDownValue_1 : decode cX2_putDownValue 1 = .ok (.getfield 15, 3) := by decide +kernel
theorem dX2_putDownValue_4 : decode cX2_putDownValue 4 = .ok (.aload_n 0, 1) := by decide +kernel
theorem dX2_putDownValue_5 : decode cX2_putDownValue 5 = .ok (.getfield 18, 3) := by decide +kernel
theorem dX2_putDownValue_8 : decode cX2_putDownValue 8 = .ok (.bipush 40, 2) := by decide +kernel
theorem dX2_putDownValue_10 : decode cX2_putDownValue 10 = .ok (.irem, 1) := by decide +kernel
theorem dX2_putDownValue_11 : decode cX2_putDownValue 11 = .ok (.aload_n 0, 1) := by decide +kernel
theorem dX2_putDownValue_12 : decode cX2_putDownValue 12 = .ok (.getfield 22, 3) := by decide +kernel
theorem dX2_putDownValue_15 : decode cX2_putDownValue 15 = .ok (.iastore, 1) := by decide +kernel
theorem dX2_putDownValue_16 : decode cX2_putDownValue 16 = .ok (.aload_n 0, 1) := by decide +kernel
theorem dX2_putDownValue_17 : decode cX2_putDownValue 17 = .ok (.dup, 1) := by decide +kernel
theorem dX2_putDownValue_18 : decode cX2_putDownValue 18 = .ok (.getfield 18, 3) := by decide +kernel
theorem dX2_putDownValue_21 : decode cX2_putDownValue 21 = .ok (.iconst 1, 1) := by decide +kernel
theorem dX2_putDownValue_22 : decode cX2_putDownValue 22 = .ok (.iadd, 1) := by decide +kernel
theorem dX2_putDownValue_23 : decode cX2_putDownValue 23 = .ok (.putfield 18, 3) := by decide +kernel
theorem dX2_putDownValue_26 : decode cX2_putDownValue 26 = .ok (.return_, 1) := by decide +kernel
theorem dX2_ownNumber_0 : decode cX2_ownNumber 0 = .ok (.iload_n 1, 1) := by decide +kernel
theorem dX2_ownNumber_1 : decode cX2_ownNumber 1 = .ok (.tableswitch 103 7 14 #[47, 52, 57, 70, 83, 88, 93, 98], 47) := by decide +kernel
theorem dX2_ownNumber_48 : decode cX2_ownNumber 48 = .ok (.aload_n 0, 1) := by decide +kernel
theorem dX2_ownNumber_49 : decode cX2_ownNumber 49 = .ok (.getfield 22, 3) := by decide +kernel
theorem dX2_ownNumber_52 : decode cX2_ownNumber 52 = .ok (.ireturn, 1) := by decide +kernel
theorem dX2_ownNumber_53 : decode cX2_ownNumber 53 = .ok (.aload_n 0, 1) := by decide +kernel
theorem dX2_ownNumber_54 : decode cX2_ownNumber 54 = .ok (.getfield 25, 3) := by decide +kernel
theorem dX2_ownNumber_57 : decode cX2_ownNumber 57 = .ok (.ireturn, 1) := by decide +kernel
theorem dX2_ownNumber_58 : decode cX2_ownNumber 58 = .ok (.aload_n 0, 1) := by decide +kernel
theorem dX2_ownNumber_59 : decode cX2_ownNumber 59 = .ok (.getfield 28, 3) := by decide +kernel
theorem dX2_ownNumber_62 : decode cX2_ownNumber 62 = .ok (.ifCond .eq 7, 3) := by decide +kernel
theorem dX2_ownNumber_65 : decode cX2_ownNumber 65 = .ok (.iconst 1, 1) := by decide +kernel
theorem dX2_ownNumber_66 : decode cX2_ownNumber 66 = .ok (.goto 4, 3) := by decide +kernel
theorem dX2_ownNumber_69 : decode cX2_ownNumber 69 = .ok (.iconst 0, 1) := by decide +kernel
theorem dX2_ownNumber_70 : decode cX2_ownNumber 70 = .ok (.ireturn, 1) := by decide +kernel
theorem dX2_ownNumber_71 : decode cX2_ownNumber 71 = .ok (.aload_n 0, 1) := by decide +kernel
theorem dX2_ownNumber_72 : decode cX2_ownNumber 72 = .ok (.getfield 32, 3) := by decide +kernel
theorem dX2_ownNumber_75 : decode cX2_ownNumber 75 = .ok (.ifCond .eq 7, 3) := by decide +kernel
theorem dX2_ownNumber_78 : decode cX2_ownNumber 78 = .ok (.iconst 1, 1) := by decide +kernel
theorem dX2_ownNumber_79 : decode cX2_ownNumber 79 = .ok (.goto 4, 3) := by decide +kernel
theorem dX2_ownNumber_82 : decode cX2_ownNumber 82 = .ok (.iconst 0, 1) := by decide +kernel
theorem dX2_ownNumber_83 : decode cX2_ownNumber 83 = .ok (.ireturn, 1) := by decide +kernel
theorem dX2_ownNumber_84 : decode cX2_ownNumber 84 = .ok (.aload_n 0, 1) := by decide +kernel
theorem dX2_ownNumber_85 : decode cX2_ownNumber 85 = .ok (.getfield 35, 3) := by decide +kernel
theorem dX2_ownNumber_88 : decode cX2_ownNumber 88 = .ok (.ireturn, 1) := by decide +kernel
theorem dX2_ownNumber_89 : decode cX2_ownNumber 89 = .ok (.aload_n 0, 1) := by decide +kernel
theorem dX2_ownNumber_90 : decode cX2_ownNumber 90 = .ok (.getfield 38, 3) := by decide +kernel
theorem dX2_ownNumber_93 : decode cX2_ownNumber 93 = .ok (.ireturn, 1) := by decide +kernel
theorem dX2_ownNumber_94 : decode cX2_ownNumber 94 = .ok (.aload_n 0, 1) := by decide +kernel
theorem dX2_ownNumber_95 : decode cX2_ownNumber 95 = .ok (.getfield 41, 3) := by decide +kernel
theorem dX2_ownNumber_98 : decode cX2_ownNumber 98 = .ok (.ireturn, 1) := by decide +kernel
theorem dX2_ownNumber_99 : decode cX2_ownNumber 99 = .ok (.aload_n 0, 1) := by decide +kernel
theorem dX2_ownNumber_100 : decode cX2_ownNumber 100 = .ok (.getfield 44, 3) := by decide +kernel
theorem dX2_ownNumber_103 : decode cX2_ownNumber 103 = .ok (.ireturn, 1) := by decide +kernel
theorem dX2_ownNumber_104 : decode cX2_ownNumber 104 = .ok (.iload_n 1, 1) := by decide +kernel
theorem dX2_ownNumber_105 : decode cX2_ownNumber 105 = .ok (.iconst 0, 1) := by decide +kernel
theorem dX2_ownNumber_106 : decode cX2_ownNumber 106 = .ok (.bipush 6, 2) := by decide +kernel
theorem dX2_ownNumber_108 : decode cX2_ownNumber 108 = .ok (.invokestatic 61, 3) := by decide +kernel
theorem dX2_ownNumber_111 : decode cX2_ownNumber 111 = .ok (.ifCond .eq 12, 3) := by decide +kernel
theorem dX2_ownNumber_114 : decode cX2_ownNumber 114 = .ok (.aload_n 0, 1) := by decide +kernel
theorem dX2_ownNumber_115 : decode cX2_ownNumber 115 = .ok (.getfield 9, 3) := by decide +kernel
theorem dX2_ownNumber_118 : decode cX2_ownNumber 118 = .ok (.iload_n 1, 1) := by decide +kernel
theorem dX2_ownNumber_119 : decode cX2_ownNumber 119 = .ok (.iaload, 1) := by decide +kernel
theorem dX2_ownNumber_120 : decode cX2_ownNumber 120 = .ok (.goto 6, 3) := by decide +kernel
theorem dX2_ownNumber_123 : decode cX2_ownNumber 123 = .ok (.sipush (-20001), 3) := by decide +kernel
theorem dX2_ownNumber_126 : decode cX2_ownNumber 126 = .ok (.ireturn, 1) := by decide +kernel
theorem dX2_alarmsWith_0 : decode cX2_alarmsWith 0 = .ok (.aload_n 0, 1) := by decide +kernel
theorem dX2_alarmsWith_1 : decode cX2_alarmsWith 1 = .ok (.getfield 18, 3) := by decide +kernel
theorem dX2_alarmsWith_4 : decode cX2_alarmsWith 4 = .ok (.bipush 40, 2) := by decide +kernel
theorem dX2_alarmsWith_6 : decode cX2_alarmsWith 6 = .ok (.if_icmp .le 13, 3) := by decide +kernel
theorem dX2_alarmsWith_9 : decode cX2_alarmsWith 9 = .ok (.aload_n 0, 1) := by decide +kernel
theorem dX2_alarmsWith_10 : decode cX2_alarmsWith 10 = .ok (.getfield 18, 3) := by decide +kernel
theorem dX2_alarmsWith_13 : decode cX2_alarmsWith 13 = .ok (.bipush 40, 2) := by decide +kernel
theorem dX2_alarmsWith_15 : decode cX2_alarmsWith 15 = .ok (.isub, 1) := by decide +kernel
theorem dX2_alarmsWith_16 : decode cX2_alarmsWith 16 = .ok (.goto 4, 3) := by decide +kernel
theorem dX2_alarmsWith_19 : decode cX2_alarmsWith 19 = .ok (.iconst 0, 1) := by decide +kernel
theorem dX2_alarmsWith_20 : decode cX2_alarmsWith 20 = .ok (.istore_n 2, 1) := by decide +kernel
theorem dX2_alarmsWith_21 : decode cX2_alarmsWith 21 = .ok (.iconst 0, 1) := by decide +kernel
theorem dX2_alarmsWith_22 : decode cX2_alarmsWith 22 = .ok (.istore_n 3, 1) := by decide +kernel
theorem dX2_alarmsWith_23 : decode cX2_alarmsWith 23 = .ok (.iconst 0, 1) := by decide +kernel
theorem dX2_alarmsWith_24 : decode cX2_alarmsWith 24 = .ok (.istore 4, 2) := by decide +kernel
theorem dX2_alarmsWith_26 : decode cX2_alarmsWith 26 = .ok (.iconst 0, 1) := by decide +kernel
theorem dX2_alarmsWith_27 : decode cX2_alarmsWith 27 = .ok (.istore 5, 2) := by decide +kernel
theorem dX2_alarmsWith_29 : decode cX2_alarmsWith 29 = .ok (.iload_n 2, 1) := by decide +kernel
theorem dX2_alarmsWith_30 : decode cX2_alarmsWith 30 = .ok (.istore 6, 2) := by decide +kernel
theorem dX2_alarmsWith_32 : decode cX2_alarmsWith 32 = .ok (.iload 6, 2) := by decide +kernel
theorem dX2_alarmsWith_34 : decode cX2_alarmsWith 34 = .ok (.aload_n 0, 1) := by decide +kernel
theorem dX2_alarmsWith_35 : decode cX2_alarmsWith 35 = .ok (.getfield 18, 3) := by decide +kernel
theorem dX2_alarmsWith_38 : decode cX2_alarmsWith 38 = .ok (.if_icmp .ge 95, 3) := by decide +kernel
theorem dX2_alarmsWith_41 : decode cX2_alarmsWith 41 = .ok (.aload_n 0, 1) := by decide +kernel
theorem dX2_alarmsWith_42 : decode cX2_alarmsWith 42 = .ok (.getfield 15, 3) := by decide +kernel
theorem dX2_alarmsWith_45 : decode cX2_alarmsWith 45 = .ok (.iload 6, 2) := by decide +kernel
theorem dX2_alarmsWith_47 : decode cX2_alarmsWith 47 = .ok (.bipush 40, 2) := by decide +kernel
theorem dX2_alarmsWith_49 : decode cX2_alarmsWith 49 = .ok (.irem, 1) := by decide +kernel
theorem dX2_alarmsWith_50 : decode cX2_alarmsWith 50 = .ok (.iaload, 1) := by decide +kernel
theorem dX2_alarmsWith_51 : decode cX2_alarmsWith 51 = .ok (.istore 7, 2) := by decide +kernel
theorem dX2_alarmsWith_53 : decode cX2_alarmsWith 53 = .ok (.iload_n 3, 1) := by decide +kernel
theorem dX2_alarmsWith_54 : decode cX2_alarmsWith 54 = .ok (.ifCond .eq 13, 3) := by decide +kernel
theorem dX2_alarmsWith_57 : decode cX2_alarmsWith 57 = .ok (.aload_n 0, 1) := by decide +kernel
theorem dX2_alarmsWith_58 : decode cX2_alarmsWith 58 = .ok (.iload 7, 2) := by decide +kernel
theorem dX2_alarmsWith_60 : decode cX2_alarmsWith 60 = .ok (.iload_n 1, 1) := by decide +kernel
theorem dX2_alarmsWith_61 : decode cX2_alarmsWith 61 = .ok (.invokevirtual 53, 3) := by decide +kernel
theorem dX2_alarmsWith_64 : decode cX2_alarmsWith 64 = .ok (.goto 9, 3) := by decide +kernel
theorem dX2_alarmsWith_67 : decode cX2_alarmsWith 67 = .ok (.aload_n 0, 1) := by decide +kernel
theorem dX2_alarmsWith_68 : decode cX2_alarmsWith 68 = .ok (.iload 7, 2) := by decide +kernel
theorem dX2_alarmsWith_70 : decode cX2_alarmsWith 70 = .ok (.invokevirtual 57, 3) := by decide +kernel
theorem dX2_alarmsWith_73 : decode cX2_alarmsWith 73 = .ok (.istore 8, 2) := by decide +kernel
theorem dX2_alarmsWith_75 : decode cX2_alarmsWith 75 = .ok (.iload 8, 2) := by decide +kernel
theorem dX2_alarmsWith_77 : decode cX2_alarmsWith 77 = .ok (.ifCond .eq 10, 3) := by decide +kernel
theorem dX2_alarmsWith_80 : decode cX2_alarmsWith 80 = .ok (.iload 4, 2) := by decide +kernel
theorem dX2_alarmsWith_82 : decode cX2_alarmsWith 82 = .ok (.iconst 1, 1) := by decide +kernel
theorem dX2_alarmsWith_83 : decode cX2_alarmsWith 83 = .ok (.iadd, 1) := by decide +kernel
theorem dX2_alarmsWith_84 : decode cX2_alarmsWith 84 = .ok (.goto 4, 3) := by decide +kernel
theorem dX2_alarmsWith_87 : decode cX2_alarmsWith 87 = .ok (.iconst 0, 1) := by decide +kernel
theorem dX2_alarmsWith_88 : decode cX2_alarmsWith 88 = .ok (.istore 4, 2) := by decide +kernel
theorem dX2_alarmsWith_90 : decode cX2_alarmsWith 90 = .ok (.iload 4, 2) := by decide +kernel
theorem dX2_alarmsWith_92 : decode cX2_alarmsWith 92 = .ok (.aload_n 0, 1) := by decide +kernel
theorem dX2_alarmsWith_93 : decode cX2_alarmsWith 93 = .ok (.iload_n 3, 1) := by decide +kernel
theorem dX2_alarmsWith_94 : decode cX2_alarmsWith 94 = .ok (.invokevirtual 65, 3) := by decide +kernel
theorem dX2_alarmsWith_97 : decode cX2_alarmsWith 97 = .ok (.if_icmp .le 30, 3) := by decide +kernel
theorem dX2_alarmsWith_100 : decode cX2_alarmsWith 100 = .ok (.iconst 0, 1) := by decide +kernel
theorem dX2_alarmsWith_101 : decode cX2_alarmsWith 101 = .ok (.istore 4, 2) := by decide +kernel
theorem dX2_alarmsWith_103 : decode cX2_alarmsWith 103 = .ok (.iload_n 3, 1) := by decide +kernel
theorem dX2_alarmsWith_104 : decode cX2_alarmsWith 104 = .ok (.ifCond .ne 7, 3) := by decide +kernel
theorem dX2_alarmsWith_107 : decode cX2_alarmsWith 107 = .ok (.iconst 1, 1) := by decide +kernel
theorem dX2_alarmsWith_108 : decode cX2_alarmsWith 108 = .ok (.goto 4, 3) := by decide +kernel
theorem dX2_alarmsWith_111 : decode cX2_alarmsWith 111 = .ok (.iconst 0, 1) := by decide +kernel
theorem dX2_alarmsWith_112 : decode cX2_alarmsWith 112 = .ok (.istore_n 3, 1) := by decide +kernel
theorem dX2_alarmsWith_113 : decode cX2_alarmsWith 113 = .ok (.iload 5, 2) := by decide +kernel
theorem dX2_alarmsWith_115 : decode cX2_alarmsWith 115 = .ok (.iload_n 3, 1) := by decide +kernel
theorem dX2_alarmsWith_116 : decode cX2_alarmsWith 116 = .ok (.ifCond .eq 7, 3) := by decide +kernel
theorem dX2_alarmsWith_119 : decode cX2_alarmsWith 119 = .ok (.iconst 1, 1) := by decide +kernel
theorem dX2_alarmsWith_120 : decode cX2_alarmsWith 120 = .ok (.goto 4, 3) := by decide +kernel
theorem dX2_alarmsWith_123 : decode cX2_alarmsWith 123 = .ok (.iconst 0, 1) := by decide +kernel
theorem dX2_alarmsWith_124 : decode cX2_alarmsWith 124 = .ok (.iadd, 1) := by decide +kernel
theorem dX2_alarmsWith_125 : decode cX2_alarmsWith 125 = .ok (.istore 5, 2) := by decide +kernel
theorem dX2_alarmsWith_127 : decode cX2_alarmsWith 127 = .ok (.iinc 6 1, 3) := by decide +kernel
theorem dX2_alarmsWith_130 : decode cX2_alarmsWith 130 = .ok (.goto (-98), 3) := by decide +kernel
theorem dX2_alarmsWith_133 : decode cX2_alarmsWith 133 = .ok (.iload 5, 2) := by decide +kernel
theorem dX2_alarmsWith_135 : decode cX2_alarmsWith 135 = .ok (.ireturn, 1) := by decide +kernel
theorem dX2_leastDeadbandFor_0 : decode cX2_leastDeadbandFor 0 = .ok (.aload_n 0, 1) := by decide +kernel
theorem dX2_leastDeadbandFor_1 : decode cX2_leastDeadbandFor 1 = .ok (.sipush 1000, 3) := by decide +kernel
theorem dX2_leastDeadbandFor_4 : decode cX2_leastDeadbandFor 4 = .ok (.invokevirtual 69, 3) := by decide +kernel
theorem dX2_leastDeadbandFor_7 : decode cX2_leastDeadbandFor 7 = .ok (.iload_n 1, 1) := by decide +kernel
theorem dX2_leastDeadbandFor_8 : decode cX2_leastDeadbandFor 8 = .ok (.if_icmp .le 7, 3) := by decide +kernel
theorem dX2_leastDeadbandFor_11 : decode cX2_leastDeadbandFor 11 = .ok (.sipush (-20009), 3) := by decide +kernel
theorem dX2_leastDeadbandFor_14 : decode cX2_leastDeadbandFor 14 = .ok (.ireturn, 1) := by decide +kernel
theorem dX2_leastDeadbandFor_15 : decode cX2_leastDeadbandFor 15 = .ok (.iconst 0, 1) := by decide +kernel
theorem dX2_leastDeadbandFor_16 : decode cX2_leastDeadbandFor 16 = .ok (.istore_n 2, 1) := by decide +kernel
theorem dX2_leastDeadbandFor_17 : decode cX2_leastDeadbandFor 17 = .ok (.sipush 1000, 3) := by decide +kernel
theorem dX2_leastDeadbandFor_20 : decode cX2_leastDeadbandFor 20 = .ok (.istore_n 3, 1) := by decide +kernel
theorem dX2_leastDeadbandFor_21 : decode cX2_leastDeadbandFor 21 = .ok (.iconst 0, 1) := by decide +kernel
theorem dX2_leastDeadbandFor_22 : decode cX2_leastDeadbandFor 22 = .ok (.istore 4, 2) := by decide +kernel
theorem dX2_leastDeadbandFor_24 : decode cX2_leastDeadbandFor 24 = .ok (.iload 4, 2) := by decide +kernel
theorem dX2_leastDeadbandFor_26 : decode cX2_leastDeadbandFor 26 = .ok (.sipush 1000, 3) := by decide +kernel
theorem dX2_leastDeadbandFor_29 : decode cX2_leastDeadbandFor 29 = .ok (.if_icmp .ge 42, 3) := by decide +kernel
theorem dX2_leastDeadbandFor_32 : decode cX2_leastDeadbandFor 32 = .ok (.iload_n 2, 1) := by decide +kernel
theorem dX2_leastDeadbandFor_33 : decode cX2_leastDeadbandFor 33 = .ok (.iload_n 3, 1) := by decide +kernel
theorem dX2_leastDeadbandFor_34 : decode cX2_leastDeadbandFor 34 = .ok (.if_icmp .ge 37, 3) := by decide +kernel
theorem dX2_leastDeadbandFor_37 : decode cX2_leastDeadbandFor 37 = .ok (.iload_n 2, 1) := by decide +kernel
theorem dX2_leastDeadbandFor_38 : decode cX2_leastDeadbandFor 38 = .ok (.iload_n 3, 1) := by decide +kernel
theorem dX2_leastDeadbandFor_39 : decode cX2_leastDeadbandFor 39 = .ok (.iadd, 1) := by decide +kernel
theorem dX2_leastDeadbandFor_40 : decode cX2_leastDeadbandFor 40 = .ok (.iconst 2, 1) := by decide +kernel
theorem dX2_leastDeadbandFor_41 : decode cX2_leastDeadbandFor 41 = .ok (.idiv, 1) := by decide +kernel
theorem dX2_leastDeadbandFor_42 : decode cX2_leastDeadbandFor 42 = .ok (.istore 5, 2) := by decide +kernel
theorem dX2_leastDeadbandFor_44 : decode cX2_leastDeadbandFor 44 = .ok (.aload_n 0, 1) := by decide +kernel
theorem dX2_leastDeadbandFor_45 : decode cX2_leastDeadbandFor 45 = .ok (.iload 5, 2) := by decide +kernel
theorem dX2_leastDeadbandFor_47 : decode cX2_leastDeadbandFor 47 = .ok (.invokevirtual 69, 3) := by decide +kernel
theorem dX2_leastDeadbandFor_50 : decode cX2_leastDeadbandFor 50 = .ok (.iload_n 1, 1) := by decide +kernel
theorem dX2_leastDeadbandFor_51 : decode cX2_leastDeadbandFor 51 = .ok (.if_icmp .le 11, 3) := by decide +kernel
theorem dX2_leastDeadbandFor_54 : decode cX2_leastDeadbandFor 54 = .ok (.iload 5, 2) := by decide +kernel
theorem dX2_leastDeadbandFor_56 : decode cX2_leastDeadbandFor 56 = .ok (.iconst 1, 1) := by decide +kernel
theorem dX2_leastDeadbandFor_57 : decode cX2_leastDeadbandFor 57 = .ok (.iadd, 1) := by decide +kernel
theorem dX2_leastDeadbandFor_58 : decode cX2_leastDeadbandFor 58 = .ok (.istore_n 2, 1) := by decide +kernel
theorem dX2_leastDeadbandFor_59 : decode cX2_leastDeadbandFor 59 = .ok (.goto 6, 3) := by decide +kernel
theorem dX2_leastDeadbandFor_62 : decode cX2_leastDeadbandFor 62 = .ok (.iload 5, 2) := by decide +kernel
theorem dX2_leastDeadbandFor_64 : decode cX2_leastDeadbandFor 64 = .ok (.istore_n 3, 1) := by decide +kernel
theorem dX2_leastDeadbandFor_65 : decode cX2_leastDeadbandFor 65 = .ok (.iinc 4 1, 3) := by decide +kernel
theorem dX2_leastDeadbandFor_68 : decode cX2_leastDeadbandFor 68 = .ok (.goto (-44), 3) := by decide +kernel
theorem dX2_leastDeadbandFor_71 : decode cX2_leastDeadbandFor 71 = .ok (.iload_n 3, 1) := by decide +kernel
theorem dX2_leastDeadbandFor_72 : decode cX2_leastDeadbandFor 72 = .ok (.ireturn, 1) := by decide +kernel
theorem dX3_init_0 : decode cX3_init 0 = .ok (.aload_n 0, 1) := by decide +kernel
theorem dX3_init_1 : decode cX3_init 1 = .ok (.invokespecial 3, 3) := by decide +kernel
theorem dX3_init_4 : decode cX3_init 4 = .ok (.aload_n 0, 1) := by decide +kernel
theorem dX3_init_5 : decode cX3_init 5 = .ok (.bipush 80, 2) := by decide +kernel
theorem dX3_init_7 : decode cX3_init 7 = .ok (.newarray .char, 2) := by decide +kernel
theorem dX3_init_9 : decode cX3_init 9 = .ok (.putfield 11, 3) := by decide +kernel
theorem dX3_init_12 : decode cX3_init 12 = .ok (.aload_n 0, 1) := by decide +kernel
theorem dX3_init_13 : decode cX3_init 13 = .ok (.bipush 14, 2) := by decide +kernel
theorem dX3_init_15 : decode cX3_init 15 = .ok (.newarray .int, 2) := by decide +kernel
theorem dX3_init_17 : decode cX3_init 17 = .ok (.putfield 15, 3) := by decide +kernel
theorem dX3_init_20 : decode cX3_init 20 = .ok (.aload_n 0, 1) := by decide +kernel
theorem dX3_init_21 : decode cX3_init 21 = .ok (.bipush 14, 2) := by decide +kernel
theorem dX3_init_23 : decode cX3_init 23 = .ok (.newarray .int, 2) := by decide +kernel
theorem dX3_init_25 : decode cX3_init 25 = .ok (.putfield 19, 3) := by decide +kernel
theorem dX3_init_28 : decode cX3_init 28 = .ok (.aload_n 0, 1) := by decide +kernel
theorem dX3_init_29 : decode cX3_init 29 = .ok (.bipush 14, 2) := by decide +kernel
theorem dX3_init_31 : decode cX3_init 31 = .ok (.newarray .int, 2) := by decide +kernel
theorem dX3_init_33 : decode cX3_init 33 = .ok (.putfield 22, 3) := by decide +kernel
theorem dX3_init_36 : decode cX3_init 36 = .ok (.return_, 1) := by decide +kernel
theorem dX3_append_0 : decode cX3_append 0 = .ok (.aload_n 0, 1) := by decide +kernel
theorem dX3_append_1 : decode cX3_append 1 = .ok (.getfield 25, 3) := by decide +kernel
theorem dX3_append_4 : decode cX3_append 4 = .ok (.bipush 80, 2) := by decide +kernel
theorem dX3_append_6 : decode cX3_append 6 = .ok (.if_icmp .lt 7, 3) := by decide +kernel
theorem dX3_append_9 : decode cX3_append 9 = .ok (.sipush (-20003), 3) := by decide +kernel
theorem dX3_append_12 : decode cX3_append 12 = .ok (.ireturn, 1) := by decide +kernel
theorem dX3_append_13 : decode cX3_append 13 = .ok (.aload_n 0, 1) := by decide +kernel
theorem dX3_append_14 : decode cX3_append 14 = .ok (.getfield 11, 3) := by decide +kernel
theorem dX3_append_17 : decode cX3_append 17 = .ok (.aload_n 0, 1) := by decide +kernel
theorem dX3_append_18 : decode cX3_append 18 = .ok (.getfield 25, 3) := by decide +kernel
theorem dX3_append_21 : decode cX3_append 21 = .ok (.iload_n 1, 1) := by decide +kernel
theorem dX3_append_22 : decode cX3_append 22 = .ok (.castore, 1) := by decide +kernel
theorem dX3_append_23 : decode cX3_append 23 = .ok (.aload_n 0, 1) := by decide +kernel
theorem dX3_append_24 : decode cX3_append 24 = .ok (.dup, 1) := by decide +kernel
theorem dX3_append_25 : decode cX3_append 25 = .ok (.getfield 25, 3) := by decide +kernel
theorem dX3_append_28 : decode cX3_append 28 = .ok (.iconst 1, 1) := by decide +kernel
theorem dX3_append_29 : decode cX3_append 29 = .ok (.iadd, 1) := by decide +kernel
theorem dX3_append_30 : decode cX3_append 30 = .ok (.putfield 25, 3) := by decide +kernel
theorem dX3_append_33 : decode cX3_append 33 = .ok (.aload_n 0, 1) := by decide +kernel
theorem dX3_append_34 : decode cX3_append 34 = .ok (.getfield 25, 3) := by decide +kernel
theorem dX3_append_37 : decode cX3_append 37 = .ok (.ireturn, 1) := by decide +kernel
theorem dX3_discard_0 : decode cX3_discard 0 = .ok (.aload_n 0, 1) := by decide +kernel
theorem dX3_discard_1 : decode cX3_discard 1 = .ok (.getfield 25, 3) := by decide +kernel
theorem dX3_discard_4 : decode cX3_discard 4 = .ok (.istore_n 1, 1) := by decide +kernel
theorem dX3_discard_5 : decode cX3_discard 5 = .ok (.aload_n 0, 1) := by decide +kernel
theorem dX3_discard_6 : decode cX3_discard 6 = .ok (.iconst 0, 1) := by decide +kernel
theorem dX3_discard_7 : decode cX3_discard 7 = .ok (.putfield 25, 3) := by decide +kernel
theorem dX3_discard_10 : decode cX3_discard 10 = .ok (.iload_n 1, 1) := by decide +kernel
theorem dX3_discard_11 : decode cX3_discard 11 = .ok (.ireturn, 1) := by decide +kernel
theorem dX3_readCommands_0 : decode cX3_readCommands 0 = .ok (.aload_n 0, 1) := by decide +kernel
theorem dX3_readCommands_1 : decode cX3_readCommands 1 = .ok (.iconst 0, 1) := by decide +kernel
theorem dX3_readCommands_2 : decode cX3_readCommands 2 = .ok (.putfield 29, 3) := by decide +kernel
theorem dX3_readCommands_5 : decode cX3_readCommands 5 = .ok (.aload_n 0, 1) := by decide +kernel
theorem dX3_readCommands_6 : decode cX3_readCommands 6 = .ok (.iconst 0, 1) := by decide +kernel
theorem dX3_readCommands_7 : decode cX3_readCommands 7 = .ok (.putfield 32, 3) := by decide +kernel
theorem dX3_readCommands_10 : decode cX3_readCommands 10 = .ok (.iconst 0, 1) := by decide +kernel
theorem dX3_readCommands_11 : decode cX3_readCommands 11 = .ok (.istore_n 1, 1) := by decide +kernel
theorem dX3_readCommands_12 : decode cX3_readCommands 12 = .ok (.iload_n 1, 1) := by decide +kernel
theorem dX3_readCommands_13 : decode cX3_readCommands 13 = .ok (.bipush 14, 2) := by decide +kernel
theorem dX3_readCommands_15 : decode cX3_readCommands 15 = .ok (.if_icmp .ge 53, 3) := by decide +kernel
theorem dX3_readCommands_18 : decode cX3_readCommands 18 = .ok (.aload_n 0, 1) := by decide +kernel
theorem dX3_readCommands_19 : decode cX3_readCommands 19 = .ok (.iload_n 1, 1) := by decide +kernel
theorem dX3_readCommands_20 : decode cX3_readCommands 20 = .ok (.invokevirtual 35, 3) := by decide +kernel
theorem dX3_readCommands_23 : decode cX3_readCommands 23 = .ok (.ifCond .ne 5, 3) := by decide +kernel
theorem dX3_readCommands_26 : decode cX3_readCommands 26 = .ok (.iconst 0, 1) := by decide +kernel
theorem dX3_readCommands_27 : decode cX3_readCommands 27 = .ok (.ireturn, 1) := by decide +kernel
theorem dX3_readCommands_28 : decode cX3_readCommands 28 = .ok (.aload_n 0, 1) := by decide +kernel
theorem dX3_readCommands_29 : decode cX3_readCommands 29 = .ok (.dup, 1) := by decide +kernel
theorem dX3_readCommands_30 : decode cX3_readCommands 30 = .ok (.getfield 32, 3) := by decide +kernel
theorem dX3_readCommands_33 : decode cX3_readCommands 33 = .ok (.iconst 1, 1) := by decide +kernel
theorem dX3_readCommands_34 : decode cX3_readCommands 34 = .ok (.iadd, 1) := by decide +kernel
theorem dX3_readCommands_35 : decode cX3_readCommands 35 = .ok (.putfield 32, 3) := by decide +kernel
theorem dX3_readCommands_38 : decode cX3_readCommands 38 = .ok (.aload_n 0, 1) := by decide +kernel
theorem dX3_readCommands_39 : decode cX3_readCommands 39 = .ok (.getfield 29, 3) := by decide +kernel
theorem dX3_readCommands_42 : decode cX3_readCommands 42 = .ok (.aload_n 0, 1) := by decide +kernel
theorem dX3_readCommands_43 : decode cX3_readCommands 43 = .ok (.getfield 25, 3) := by decide +kernel
theorem dX3_readCommands_46 : decode cX3_readCommands 46 = .ok (.if_icmp .ne 5, 3) := by decide +kernel
theorem dX3_readCommands_49 : decode cX3_readCommands 49 = .ok (.iconst 1, 1) := by decide +kernel
theorem dX3_readCommands_50 : decode cX3_readCommands 50 = .ok (.ireturn, 1) := by decide +kernel
theorem dX3_readCommands_51 : decode cX3_readCommands 51 = .ok (.aload_n 0, 1) := by decide +kernel
theorem dX3_readCommands_52 : decode cX3_readCommands 52 = .ok (.bipush 59, 2) := by decide +kernel
theorem dX3_readCommands_54 : decode cX3_readCommands 54 = .ok (.invokevirtual 39, 3) := by decide +kernel
theorem dX3_readCommands_57 : decode cX3_readCommands 57 = .ok (.ifCond .ne 5, 3) := by decide +kernel
theorem dX3_readCommands_60 : decode cX3_readCommands 60 = .ok (.iconst 0, 1) := by decide +kernel
theorem dX3_readCommands_61 : decode cX3_readCommands 61 = .ok (.ireturn, 1) := by decide +kernel
theorem dX3_readCommands_62 : decode cX3_readCommands 62 = .ok (.iinc 1 1, 3) := by decide +kernel
theorem dX3_readCommands_65 : decode cX3_readCommands 65 = .ok (.goto (-53), 3) := by decide +kernel
theorem dX3_readCommands_68 : decode cX3_readCommands 68 = .ok (.iconst 0, 1) := by decide +kernel
theorem dX3_readCommands_69 : decode cX3_readCommands 69 = .ok (.ireturn, 1) := by decide +kernel
theorem dX3_readCommand_0 : decode cX3_readCommand 0 = .ok (.aload_n 0, 1) := by decide +kernel
theorem dX3_readCommand_1 : decode cX3_readCommand 1 = .ok (.invokevirtual 43, 3) := by decide +kernel
theorem dX3_readCommand_4 : decode cX3_readCommand 4 = .ok (.istore_n 2, 1) := by decide +kernel
theorem dX3_readCommand_5 : decode cX3_readCommand 5 = .ok (.iload_n 2, 1) := by decide +kernel
theorem dX3_readCommand_6 : decode cX3_readCommand 6 = .ok (.sipush (-20009), 3) := by decide +kernel
theorem dX3_readCommand_9 : decode cX3_readCommand 9 = .ok (.if_icmp .eq 10, 3) := by decide +kernel
theorem dX3_readCommand_12 : decode cX3_readCommand 12 = .ok (.aload_n 0, 1) := by decide +kernel
theorem dX3_readCommand_13 : decode cX3_readCommand 13 = .ok (.invokevirtual 47, 3) := by decide +kernel
theorem dX3_readCommand_16 : decode cX3_readCommand 16 = .ok (.ifCond .ne 5, 3) := by decide +kernel
theorem dX3_readCommand_19 : decode cX3_readCommand 19 = .ok (.iconst 0, 1) := by decide +kernel
theorem dX3_readCommand_20 : decode cX3_readCommand 20 = .ok (.ireturn, 1) := by decide +kernel
theorem dX3_readCommand_21 : decode cX3_readCommand 21 = .ok (.aload_n 0, 1) := by decide +kernel
theorem dX3_readCommand_22 : decode cX3_readCommand 22 = .ok (.getfield 15, 3) := by decide +kernel
theorem dX3_readCommand_25 : decode cX3_readCommand 25 = .ok (.iload_n 1, 1) := by decide +kernel
theorem dX3_readCommand_26 : decode cX3_readCommand 26 = .ok (.iload_n 2, 1) := by decide +kernel
theorem dX3_readCommand_27 : decode cX3_readCommand 27 = .ok (.iastore, 1) := by decide +kernel
theorem dX3_readCommand_28 : decode cX3_readCommand 28 = .ok (.aload_n 0, 1) := by decide +kernel
theorem dX3_readCommand_29 : decode cX3_readCommand 29 = .ok (.getfield 19, 3) := by decide +kernel
theorem dX3_readCommand_32 : decode cX3_readCommand 32 = .ok (.iload_n 1, 1) := by decide +kernel
theorem dX3_readCommand_33 : decode cX3_readCommand 33 = .ok (.aload_n 0, 1) := by decide +kernel
theorem dX3_readCommand_34 : decode cX3_readCommand 34 = .ok (.getfield 51, 3) := by decide +kernel
theorem dX3_readCommand_37 : decode cX3_readCommand 37 = .ok (.iastore, 1) := by decide +kernel
theorem dX3_readCommand_38 : decode cX3_readCommand 38 = .ok (.aload_n 0, 1) := by decide +kernel
theorem dX3_readCommand_39 : decode cX3_readCommand 39 = .ok (.getfield 22, 3) := by decide +kernel
theorem dX3_readCommand_42 : decode cX3_readCommand 42 = .ok (.iload_n 1, 1) := by decide +kernel
theorem dX3_readCommand_43 : decode cX3_readCommand 43 = .ok (.iconst 0, 1) := by decide +kernel
theorem dX3_readCommand_44 : decode cX3_readCommand 44 = .ok (.iastore, 1) := by decide +kernel
theorem dX3_readCommand_45 : decode cX3_readCommand 45 = .ok (.iload_n 2, 1) := by decide +kernel
theorem dX3_readCommand_46 : decode cX3_readCommand 46 = .ok (.ifCond .ne 32, 3) := by decide +kernel
theorem dX3_readCommand_49 : decode cX3_readCommand 49 = .ok (.aload_n 0, 1) := by decide +kernel
theorem dX3_readCommand_50 : decode cX3_readCommand 50 = .ok (.bipush 61, 2) := by decide +kernel
theorem dX3_readCommand_52 : decode cX3_readCommand 52 = .ok (.invokevirtual 39, 3) := by decide +kernel
theorem dX3_readCommand_55 : decode cX3_readCommand 55 = .ok (.ifCond .eq 21, 3) := by decide +kernel
theorem dX3_readCommand_58 : decode cX3_readCommand 58 = .ok (.aload_n 0, 1) := by decide +kernel
theorem dX3_readCommand_59 : decode cX3_readCommand 59 = .ok (.iload_n 1, 1) := by decide +kernel
theorem dX3_readCommand_60 : decode cX3_readCommand 60 = .ok (.aload_n 0, 1) := by decide +kernel
theorem dX3_readCommand_61 : decode cX3_readCommand 61 = .ok (.bipush 45, 2) := by decide +kernel
theorem dX3_readCommand_63 : decode cX3_readCommand 63 = .ok (.invokevirtual 39, 3) := by decide +kernel
theorem dX3_readCommand_66 : decode cX3_readCommand 66 = .ok (.invokevirtual 54, 3) := by decide +kernel
theorem dX3_readCommand_69 : decode cX3_readCommand 69 = .ok (.ifCond .eq 7, 3) := by decide +kernel
theorem dX3_readCommand_72 : decode cX3_readCommand 72 = .ok (.iconst 1, 1) := by decide +kernel
theorem dX3_readCommand_73 : decode cX3_readCommand 73 = .ok (.goto 4, 3) := by decide +kernel
theorem dX3_readCommand_76 : decode cX3_readCommand 76 = .ok (.iconst 0, 1) := by decide +kernel
theorem dX3_readCommand_77 : decode cX3_readCommand 77 = .ok (.ireturn, 1) := by decide +kernel
theorem dX3_readCommand_78 : decode cX3_readCommand 78 = .ok (.iload_n 2, 1) := by decide +kernel
theorem dX3_readCommand_79 : decode cX3_readCommand 79 = .ok (.iconst 2, 1) := by decide +kernel
theorem dX3_readCommand_80 : decode cX3_readCommand 80 = .ok (.if_icmp .ne 21, 3) := by decide +kernel
theorem dX3_readCommand_83 : decode cX3_readCommand 83 = .ok (.aload_n 0, 1) := by decide +kernel
theorem dX3_readCommand_84 : decode cX3_readCommand 84 = .ok (.bipush 58, 2) := by decide +kernel
theorem dX3_readCommand_86 : decode cX3_readCommand 86 = .ok (.invokevirtual 39, 3) := by decide +kernel
theorem dX3_readCommand_89 : decode cX3_readCommand 89 = .ok (.ifCond .eq 16, 3) := by decide +kernel
theorem dX3_readCommand_92 : decode cX3_readCommand 92 = .ok (.aload_n 0, 1) := by decide +kernel
theorem dX3_readCommand_93 : decode cX3_readCommand 93 = .ok (.iload_n 1, 1) := by decide +kernel
theorem dX3_readCommand_94 : decode cX3_readCommand 94 = .ok (.iconst 0, 1) := by decide +kernel
theorem dX3_readCommand_95 : decode cX3_readCommand 95 = .ok (.invokevirtual 54, 3) := by decide +kernel
theorem dX3_readCommand_98 : decode cX3_readCommand 98 = .ok (.ifCond .eq 7, 3) := by decide +kernel
theorem dX3_readCommand_101 : decode cX3_readCommand 101 = .ok (.iconst 1, 1) := by decide +kernel
theorem dX3_readCommand_102 : decode cX3_readCommand 102 = .ok (.goto 4, 3) := by decide +kernel
theorem dX3_readCommand_105 : decode cX3_readCommand 105 = .ok (.iconst 0, 1) := by decide +kernel
theorem dX3_readCommand_106 : decode cX3_readCommand 106 = .ok (.ireturn, 1) := by decide +kernel
theorem dX3_readSecond_0 : decode cX3_readSecond 0 = .ok (.aload_n 0, 1) := by decide +kernel
theorem dX3_readSecond_1 : decode cX3_readSecond 1 = .ok (.invokevirtual 47, 3) := by decide +kernel
theorem dX3_readSecond_4 : decode cX3_readSecond 4 = .ok (.ifCond .ne 5, 3) := by decide +kernel
theorem dX3_readSecond_7 : decode cX3_readSecond 7 = .ok (.iconst 0, 1) := by decide +kernel
theorem dX3_readSecond_8 : decode cX3_readSecond 8 = .ok (.ireturn, 1) := by decide +kernel
theorem dX3_readSecond_9 : decode cX3_readSecond 9 = .ok (.aload_n 0, 1) := by decide +kernel
theorem dX3_readSecond_10 : decode cX3_readSecond 10 = .ok (.getfield 22, 3) := by decide +kernel
theorem dX3_readSecond_13 : decode cX3_readSecond 13 = .ok (.iload_n 1, 1) := by decide +kernel
theorem dX3_readSecond_14 : decode cX3_readSecond 14 = .ok (.iload_n 2, 1) := by decide +kernel
theorem dX3_readSecond_15 : decode cX3_readSecond 15 = .ok (.ifCond .eq 11, 3) := by decide +kernel
theorem dX3_readSecond_18 : decode cX3_readSecond 18 = .ok (.aload_n 0, 1) := by decide +kernel
theorem dX3_readSecond_19 : decode cX3_readSecond 19 = .ok (.getfield 51, 3) := by decide +kernel
theorem dX3_readSecond_22 : decode cX3_readSecond 22 = .ok (.ineg, 1) := by decide +kernel
theorem dX3_readSecond_23 : decode cX3_readSecond 23 = .ok (.goto 7, 3) := by decide +kernel
theorem dX3_readSecond_26 : decode cX3_readSecond 26 = .ok (.aload_n 0, 1) := by decide +kernel
theorem dX3_readSecond_27 : decode cX3_readSecond 27 = .ok (.getfield 51, 3) := by decide +kernel
theorem dX3_readSecond_30 : decode cX3_readSecond 30 = .ok (.iastore, 1) := by decide +kernel
theorem dX3_readSecond_31 : decode cX3_readSecond 31 = .ok (.iconst 1, 1) := by decide +kernel
theorem dX3_readSecond_32 : decode cX3_readSecond 32 = .ok (.ireturn, 1) := by decide +kernel
theorem dX3_readWord_0 : decode cX3_readWord 0 = .ok (.iconst 0, 1) := by decide +kernel
theorem dX3_readWord_1 : decode cX3_readWord 1 = .ok (.istore_n 1, 1) := by decide +kernel
theorem dX3_readWord_2 : decode cX3_readWord 2 = .ok (.iconst 0, 1) := by decide +kernel
theorem dX3_readWord_3 : decode cX3_readWord 3 = .ok (.istore_n 2, 1) := by decide +kernel
theorem dX3_readWord_4 : decode cX3_readWord 4 = .ok (.iload_n 2, 1) := by decide +kernel
theorem dX3_readWord_5 : decode cX3_readWord 5 = .ok (.iconst 5, 1) := by decide +kernel
theorem dX3_readWord_6 : decode cX3_readWord 6 = .ok (.if_icmp .ge 50, 3) := by decide +kernel
theorem dX3_readWord_9 : decode cX3_readWord 9 = .ok (.iload_n 2, 1) := by decide +kernel
theorem dX3_readWord_10 : decode cX3_readWord 10 = .ok (.invokestatic 58, 3) := by decide +kernel
theorem dX3_readWord_13 : decode cX3_readWord 13 = .ok (.astore_n 3, 1) := by decide +kernel
theorem dX3_readWord_14 : decode cX3_readWord 14 = .ok (.aload_n 0, 1) := by decide +kernel
theorem dX3_readWord_15 : decode cX3_readWord 15 = .ok (.aload_n 3, 1) := by decide +kernel
theorem dX3_readWord_16 : decode cX3_readWord 16 = .ok (.invokevirtual 62, 3) := by decide +kernel
theorem dX3_readWord_19 : decode cX3_readWord 19 = .ok (.istore 4, 2) := by decide +kernel
theorem dX3_readWord_21 : decode cX3_readWord 21 = .ok (.iload 4, 2) := by decide +kernel
theorem dX3_readWord_23 : decode cX3_readWord 23 = .ok (.aload_n 3, 1) := by decide +kernel
theorem dX3_readWord_24 : decode cX3_readWord 24 = .ok (.invokevirtual 66, 3) := by decide +kernel
theorem dX3_readWord_27 : decode cX3_readWord 27 = .ok (.if_icmp .ne 16, 3) := by decide +kernel
theorem dX3_readWord_30 : decode cX3_readWord 30 = .ok (.aload_n 0, 1) := by decide +kernel
theorem dX3_readWord_31 : decode cX3_readWord 31 = .ok (.dup, 1) := by decide +kernel
theorem dX3_readWord_32 : decode cX3_readWord 32 = .ok (.getfield 29, 3) := by decide +kernel
theorem dX3_readWord_35 : decode cX3_readWord 35 = .ok (.iload 4, 2) := by decide +kernel
theorem dX3_readWord_37 : decode cX3_readWord 37 = .ok (.iadd, 1) := by decide +kernel
theorem dX3_readWord_38 : decode cX3_readWord 38 = .ok (.putfield 29, 3) := by decide +kernel
theorem dX3_readWord_41 : decode cX3_readWord 41 = .ok (.iload_n 2, 1) := by decide +kernel
theorem dX3_readWord_42 : decode cX3_readWord 42 = .ok (.ireturn, 1) := by decide +kernel
theorem dX3_readWord_43 : decode cX3_readWord 43 = .ok (.iload_n 1, 1) := by decide +kernel
theorem dX3_readWord_44 : decode cX3_readWord 44 = .ok (.iload 4, 2) := by decide +kernel
theorem dX3_readWord_46 : decode cX3_readWord 46 = .ok (.invokestatic 70, 3) := by decide +kernel
theorem dX3_readWord_49 : decode cX3_readWord 49 = .ok (.istore_n 1, 1) := by decide +kernel
theorem dX3_readWord_50 : decode cX3_readWord 50 = .ok (.iinc 2 1, 3) := by decide +kernel
theorem dX3_readWord_53 : decode cX3_readWord 53 = .ok (.goto (-49), 3) := by decide +kernel
theorem dX3_readWord_56 : decode cX3_readWord 56 = .ok (.aload_n 0, 1) := by decide +kernel
theorem dX3_readWord_57 : decode cX3_readWord 57 = .ok (.dup, 1) := by decide +kernel
theorem dX3_readWord_58 : decode cX3_readWord 58 = .ok (.getfield 29, 3) := by decide +kernel
theorem dX3_readWord_61 : decode cX3_readWord 61 = .ok (.iload_n 1, 1) := by decide +kernel
theorem dX3_readWord_62 : decode cX3_readWord 62 = .ok (.iadd, 1) := by decide +kernel
theorem dX3_readWord_63 : decode cX3_readWord 63 = .ok (.putfield 29, 3) := by decide +kernel
theorem dX3_readWord_66 : decode cX3_readWord 66 = .ok (.sipush (-20009), 3) := by decide +kernel
theorem dX3_readWord_69 : decode cX3_readWord 69 = .ok (.ireturn, 1) := by decide +kernel
theorem dX3_matchedSigns_0 : decode cX3_matchedSigns 0 = .ok (.iconst 0, 1) := by decide +kernel
theorem dX3_matchedSigns_1 : decode cX3_matchedSigns 1 = .ok (.istore_n 2, 1) := by decide +kernel
theorem dX3_matchedSigns_2 : decode cX3_matchedSigns 2 = .ok (.iload_n 2, 1) := by decide +kernel
theorem dX3_matchedSigns_3 : decode cX3_matchedSigns 3 = .ok (.aload_n 1, 1) := by decide +kernel
theorem dX3_matchedSigns_4 : decode cX3_matchedSigns 4 = .ok (.invokevirtual 66, 3) := by decide +kernel
theorem dX3_matchedSigns_7 : decode cX3_matchedSigns 7 = .ok (.if_icmp .ge 41, 3) := by decide +kernel
theorem dX3_matchedSigns_10 : decode cX3_matchedSigns 10 = .ok (.aload_n 0, 1) := by decide +kernel
theorem dX3_matchedSigns_11 : decode cX3_matchedSigns 11 = .ok (.getfield 29, 3) := by decide +kernel
theorem dX3_matchedSigns_14 : decode cX3_matchedSigns 14 = .ok (.iload_n 2, 1) := by decide +kernel
theorem dX3_matchedSigns_15 : decode cX3_matchedSigns 15 = .ok (.iadd, 1) := by decide +kernel
theorem dX3_matchedSigns_16 : decode cX3_matchedSigns 16 = .ok (.aload_n 0, 1) := by decide +kernel
theorem dX3_matchedSigns_17 : decode cX3_matchedSigns 17 = .ok (.getfield 25, 3) := by decide +kernel
theorem dX3_matchedSigns_20 : decode cX3_matchedSigns 20 = .ok (.if_icmp .ge 28, 3) := by decide +kernel
theorem dX3_matchedSigns_23 : decode cX3_matchedSigns 23 = .ok (.aload_n 0, 1) := by decide +kernel
theorem dX3_matchedSigns_24 : decode cX3_matchedSigns 24 = .ok (.getfield 11, 3) := by decide +kernel
theorem dX3_matchedSigns_27 : decode cX3_matchedSigns 27 = .ok (.aload_n 0, 1) := by decide +kernel
theorem dX3_matchedSigns_28 : decode cX3_matchedSigns 28 = .ok (.getfield 29, 3) := by decide +kernel
theorem dX3_matchedSigns_31 : decode cX3_matchedSigns 31 = .ok (.iload_n 2, 1) := by decide +kernel
theorem dX3_matchedSigns_32 : decode cX3_matchedSigns 32 = .ok (.iadd, 1) := by decide +kernel
theorem dX3_matchedSigns_33 : decode cX3_matchedSigns 33 = .ok (.caload, 1) := by decide +kernel
theorem dX3_matchedSigns_34 : decode cX3_matchedSigns 34 = .ok (.aload_n 1, 1) := by decide +kernel
theorem dX3_matchedSigns_35 : decode cX3_matchedSigns 35 = .ok (.iload_n 2, 1) := by decide +kernel
theorem dX3_matchedSigns_36 : decode cX3_matchedSigns 36 = .ok (.invokevirtual 76, 3) := by decide +kernel
theorem dX3_matchedSigns_39 : decode cX3_matchedSigns 39 = .ok (.if_icmp .ne 9, 3) := by decide +kernel
theorem dX3_matchedSigns_42 : decode cX3_matchedSigns 42 = .ok (.iinc 2 1, 3) := by decide +kernel
theorem dX3_matchedSigns_45 : decode cX3_matchedSigns 45 = .ok (.goto (-43), 3) := by decide +kernel
theorem dX3_matchedSigns_48 : decode cX3_matchedSigns 48 = .ok (.iload_n 2, 1) := by decide +kernel
theorem dX3_matchedSigns_49 : decode cX3_matchedSigns 49 = .ok (.ireturn, 1) := by decide +kernel
theorem dX3_wordText_0 : decode cX3_wordText 0 = .ok (.iload_n 0, 1) := by decide +kernel
theorem dX3_wordText_1 : decode cX3_wordText 1 = .ok (.tableswitch 43 0 3 #[31, 34, 37, 40], 31) := by decide +kernel
theorem dX3_wordText_32 : decode cX3_wordText 32 = .ok (.ldc 80, 2) := by decide +kernel
theorem dX3_wordText_34 : decode cX3_wordText 34 = .ok (.areturn, 1) := by decide +kernel
theorem dX3_wordText_35 : decode cX3_wordText 35 = .ok (.ldc 82, 2) := by decide +kernel
theorem dX3_wordText_37 : decode cX3_wordText 37 = .ok (.areturn, 1) := by decide +kernel
theorem dX3_wordText_38 : decode cX3_wordText 38 = .ok (.ldc 84, 2) := by decide +kernel
theorem dX3_wordText_40 : decode cX3_wordText 40 = .ok (.areturn, 1) := by decide +kernel
theorem dX3_wordText_41 : decode cX3_wordText 41 = .ok (.ldc 86, 2) := by decide +kernel
theorem dX3_wordText_43 : decode cX3_wordText 43 = .ok (.areturn, 1) := by decide +kernel
theorem dX3_wordText_44 : decode cX3_wordText 44 = .ok (.ldc 88, 2) := by decide +kernel
theorem dX3_wordText_46 : decode cX3_wordText 46 = .ok (.areturn, 1) := by decide +kernel
theorem dX3_readNumber_0 : decode cX3_readNumber 0 = .ok (.iconst 0, 1) := by decide +kernel
theorem dX3_readNumber_1 : decode cX3_readNumber 1 = .ok (.istore_n 1, 1) := by decide +kernel
theorem dX3_readNumber_2 : decode cX3_readNumber 2 = .ok (.aload_n 0, 1) := by decide +kernel
theorem dX3_readNumber_3 : decode cX3_readNumber 3 = .ok (.iconst 0, 1) := by decide +kernel
theorem dX3_readNumber_4 : decode cX3_readNumber 4 = .ok (.putfield 51, 3) := by decide +kernel
theorem dX3_readNumber_7 : decode cX3_readNumber 7 = .ok (.iload_n 1, 1) := by decide +kernel
theorem dX3_readNumber_8 : decode cX3_readNumber 8 = .ok (.iconst 5, 1) := by decide +kernel
theorem dX3_readNumber_9 : decode cX3_readNumber 9 = .ok (.if_icmp .ge 73, 3) := by decide +kernel
theorem dX3_readNumber_12 : decode cX3_readNumber 12 = .ok (.aload_n 0, 1) := by decide +kernel
theorem dX3_readNumber_13 : decode cX3_readNumber 13 = .ok (.getfield 29, 3) := by decide +kernel
theorem dX3_readNumber_16 : decode cX3_readNumber 16 = .ok (.aload_n 0, 1) := by decide +kernel
theorem dX3_readNumber_17 : decode cX3_readNumber 17 = .ok (.getfield 25, 3) := by decide +kernel
theorem dX3_readNumber_20 : decode cX3_readNumber 20 = .ok (.if_icmp .ge 62, 3) := by decide +kernel
theorem dX3_readNumber_23 : decode cX3_readNumber 23 = .ok (.aload_n 0, 1) := by decide +kernel
theorem dX3_readNumber_24 : decode cX3_readNumber 24 = .ok (.getfield 11, 3) := by decide +kernel
theorem dX3_readNumber_27 : decode cX3_readNumber 27 = .ok (.aload_n 0, 1) := by decide +kernel
theorem dX3_readNumber_28 : decode cX3_readNumber 28 = .ok (.getfield 29, 3) := by decide +kernel
theorem dX3_readNumber_31 : decode cX3_readNumber 31 = .ok (.caload, 1) := by decide +kernel
theorem dX3_readNumber_32 : decode cX3_readNumber 32 = .ok (.bipush 48, 2) := by decide +kernel
theorem dX3_readNumber_34 : decode cX3_readNumber 34 = .ok (.bipush 57, 2) := by decide +kernel
theorem dX3_readNumber_36 : decode cX3_readNumber 36 = .ok (.invokestatic 90, 3) := by decide +kernel
theorem dX3_readNumber_39 : decode cX3_readNumber 39 = .ok (.ifCond .eq 43, 3) := by decide +kernel
theorem dX3_readNumber_42 : decode cX3_readNumber 42 = .ok (.aload_n 0, 1) := by decide +kernel
theorem dX3_readNumber_43 : decode cX3_readNumber 43 = .ok (.bipush 10, 2) := by decide +kernel
theorem dX3_readNumber_45 : decode cX3_readNumber 45 = .ok (.aload_n 0, 1) := by decide +kernel
theorem dX3_readNumber_46 : decode cX3_readNumber 46 = .ok (.getfield 51, 3) := by decide +kernel
theorem dX3_readNumber_49 : decode cX3_readNumber 49 = .ok (.imul, 1) := by decide +kernel
theorem dX3_readNumber_50 : decode cX3_readNumber 50 = .ok (.aload_n 0, 1) := by decide +kernel
theorem dX3_readNumber_51 : decode cX3_readNumber 51 = .ok (.getfield 11, 3) := by decide +kernel
theorem dX3_readNumber_54 : decode cX3_readNumber 54 = .ok (.aload_n 0, 1) := by decide +kernel
theorem dX3_readNumber_55 : decode cX3_readNumber 55 = .ok (.getfield 29, 3) := by decide +kernel
theorem dX3_readNumber_58 : decode cX3_readNumber 58 = .ok (.caload, 1) := by decide +kernel
theorem dX3_readNumber_59 : decode cX3_readNumber 59 = .ok (.iadd, 1) := by decide +kernel
theorem dX3_readNumber_60 : decode cX3_readNumber 60 = .ok (.bipush 48, 2) := by decide +kernel
theorem dX3_readNumber_62 : decode cX3_readNumber 62 = .ok (.isub, 1) := by decide +kernel
theorem dX3_readNumber_63 : decode cX3_readNumber 63 = .ok (.putfield 51, 3) := by decide +kernel
theorem dX3_readNumber_66 : decode cX3_readNumber 66 = .ok (.aload_n 0, 1) := by decide +kernel
theorem dX3_readNumber_67 : decode cX3_readNumber 67 = .ok (.dup, 1) := by decide +kernel
theorem dX3_readNumber_68 : decode cX3_readNumber 68 = .ok (.getfield 29, 3) := by decide +kernel
theorem dX3_readNumber_71 : decode cX3_readNumber 71 = .ok (.iconst 1, 1) := by decide +kernel
theorem dX3_readNumber_72 : decode cX3_readNumber 72 = .ok (.iadd, 1) := by decide +kernel
theorem dX3_readNumber_73 : decode cX3_readNumber 73 = .ok (.putfield 29, 3) := by decide +kernel
theorem dX3_readNumber_76 : decode cX3_readNumber 76 = .ok (.iinc 1 1, 3) := by decide +kernel
theorem dX3_readNumber_79 : decode cX3_readNumber 79 = .ok (.goto (-72), 3) := by decide +kernel
theorem dX3_readNumber_82 : decode cX3_readNumber 82 = .ok (.iload_n 1, 1) := by decide +kernel
theorem dX3_readNumber_83 : decode cX3_readNumber 83 = .ok (.ifCond .le 7, 3) := by decide +kernel
theorem dX3_readNumber_86 : decode cX3_readNumber 86 = .ok (.iconst 1, 1) := by decide +kernel
theorem dX3_readNumber_87 : decode cX3_readNumber 87 = .ok (.goto 4, 3) := by decide +kernel
theorem dX3_readNumber_90 : decode cX3_readNumber 90 = .ok (.iconst 0, 1) := by decide +kernel
theorem dX3_readNumber_91 : decode cX3_readNumber 91 = .ok (.ireturn, 1) := by decide +kernel
theorem dX3_readSign_0 : decode cX3_readSign 0 = .ok (.aload_n 0, 1) := by decide +kernel
theorem dX3_readSign_1 : decode cX3_readSign 1 = .ok (.getfield 29, 3) := by decide +kernel
theorem dX3_readSign_4 : decode cX3_readSign 4 = .ok (.aload_n 0, 1) := by decide +kernel
theorem dX3_readSign_5 : decode cX3_readSign 5 = .ok (.getfield 25, 3) := by decide +kernel
theorem dX3_readSign_8 : decode cX3_readSign 8 = .ok (.if_icmp .ge 28, 3) := by decide +kernel
theorem dX3_readSign_11 : decode cX3_readSign 11 = .ok (.aload_n 0, 1) := by decide +kernel
theorem dX3_readSign_12 : decode cX3_readSign 12 = .ok (.getfield 11, 3) := by decide +kernel
theorem dX3_readSign_15 : decode cX3_readSign 15 = .ok (.aload_n 0, 1) := by decide +kernel
theorem dX3_readSign_16 : decode cX3_readSign 16 = .ok (.getfield 29, 3) := by decide +kernel
theorem dX3_readSign_19 : decode cX3_readSign 19 = .ok (.caload, 1) := by decide +kernel
theorem dX3_readSign_20 : decode cX3_readSign 20 = .ok (.iload_n 1, 1) := by decide +kernel
theorem dX3_readSign_21 : decode cX3_readSign 21 = .ok (.if_icmp .ne 15, 3) := by decide +kernel
theorem dX3_readSign_24 : decode cX3_readSign 24 = .ok (.aload_n 0, 1) := by decide +kernel
theorem dX3_readSign_25 : decode cX3_readSign 25 = .ok (.dup, 1) := by decide +kernel
theorem dX3_readSign_26 : decode cX3_readSign 26 = .ok (.getfield 29, 3) := by decide +kernel
theorem dX3_readSign_29 : decode cX3_readSign 29 = .ok (.iconst 1, 1) := by decide +kernel
theorem dX3_readSign_30 : decode cX3_readSign 30 = .ok (.iadd, 1) := by decide +kernel
theorem dX3_readSign_31 : decode cX3_readSign 31 = .ok (.putfield 29, 3) := by decide +kernel
theorem dX3_readSign_34 : decode cX3_readSign 34 = .ok (.iconst 1, 1) := by decide +kernel
theorem dX3_readSign_35 : decode cX3_readSign 35 = .ok (.ireturn, 1) := by decide +kernel
theorem dX3_readSign_36 : decode cX3_readSign 36 = .ok (.iconst 0, 1) := by decide +kernel
theorem dX3_readSign_37 : decode cX3_readSign 37 = .ok (.ireturn, 1) := by decide +kernel
end
section
theorem dX4_init_0 : decode cX4_init 0 = .ok (.aload_n 0, 1) := by decide +kernel
theorem dX4_init_1 : decode cX4_init 1 = .ok (.invokespecial 3, 3) := by decide +kernel
theorem dX4_init_4 : decode cX4_init 4 = .ok (.aload_n 0, 1) := by decide +kernel
theorem dX4_init_5 : decode cX4_init 5 = .ok (.bipush 16, 2) := by decide +kernel
theorem dX4_init_7 : decode cX4_init 7 = .ok (.anewarray 9, 3) := by decide +kernel
theorem dX4_init_10 : decode cX4_init 10 = .ok (.putfield 11, 3) := by decide +kernel
theorem dX4_init_13 : decode cX4_init 13 = .ok (.aload_n 0, 1) := by decide +kernel
theorem dX4_init_14 : decode cX4_init 14 = .ok (.new 17, 3) := by decide +kernel
theorem dX4_init_17 : decode cX4_init 17 = .ok (.dup, 1) := by decide +kernel
theorem dX4_init_18 : decode cX4_init 18 = .ok (.invokespecial 19, 3) := by decide +kernel
theorem dX4_init_21 : decode cX4_init 21 = .ok (.putfield 20, 3) := by decide +kernel
theorem dX4_init_24 : decode cX4_init 24 = .ok (.aload_n 0, 1) := by decide +kernel
theorem dX4_init_25 : decode cX4_init 25 = .ok (.new 24, 3) := by decide +kernel
theorem dX4_init_28 : decode cX4_init 28 = .ok (.dup, 1) := by decide +kernel
theorem dX4_init_29 : decode cX4_init 29 = .ok (.invokespecial 26, 3) := by decide +kernel
theorem dX4_init_32 : decode cX4_init 32 = .ok (.putfield 27, 3) := by decide +kernel
theorem dX4_init_35 : decode cX4_init 35 = .ok (.iconst 0, 1) := by decide +kernel
theorem dX4_init_36 : decode cX4_init 36 = .ok (.istore_n 1, 1) := by decide +kernel
theorem dX4_init_37 : decode cX4_init 37 = .ok (.iload_n 1, 1) := by decide +kernel
theorem dX4_init_38 : decode cX4_init 38 = .ok (.bipush 16, 2) := by decide +kernel
theorem dX4_init_40 : decode cX4_init 40 = .ok (.if_icmp .ge 22, 3) := by decide +kernel
theorem dX4_init_43 : decode cX4_init 43 = .ok (.aload_n 0, 1) := by decide +kernel
theorem dX4_init_44 : decode cX4_init 44 = .ok (.getfield 11, 3) := by decide +kernel
theorem dX4_init_47 : decode cX4_init 47 = .ok (.iload_n 1, 1) := by decide +kernel
theorem dX4_init_48 : decode cX4_init 48 = .ok (.new 9, 3) := by decide +kernel
theorem dX4_init_51 : decode cX4_init 51 = .ok (.dup, 1) := by decide +kernel
theorem dX4_init_52 : decode cX4_init 52 = .ok (.invokespecial 31, 3) := by decide +kernel
theorem dX4_init_55 : decode cX4_init 55 = .ok (.aastore, 1) := by decide +kernel
theorem dX4_init_56 : decode cX4_init 56 = .ok (.iinc 1 1, 3) := by decide +kernel
theorem dX4_init_59 : decode cX4_init 59 = .ok (.goto (-22), 3) := by decide +kernel
theorem dX4_init_62 : decode cX4_init 62 = .ok (.return_, 1) := by decide +kernel
theorem dX4_copyFrom_0 : decode cX4_copyFrom 0 = .ok (.iconst 0, 1) := by decide +kernel
theorem dX4_copyFrom_1 : decode cX4_copyFrom 1 = .ok (.istore_n 2, 1) := by decide +kernel
theorem dX4_copyFrom_2 : decode cX4_copyFrom 2 = .ok (.iload_n 2, 1) := by decide +kernel
theorem dX4_copyFrom_3 : decode cX4_copyFrom 3 = .ok (.aload_n 1, 1) := by decide +kernel
theorem dX4_copyFrom_4 : decode cX4_copyFrom 4 = .ok (.getfield 32, 3) := by decide +kernel
theorem dX4_copyFrom_7 : decode cX4_copyFrom 7 = .ok (.if_icmp .ge 24, 3) := by decide +kernel
theorem dX4_copyFrom_10 : decode cX4_copyFrom 10 = .ok (.aload_n 0, 1) := by decide +kernel
theorem dX4_copyFrom_11 : decode cX4_copyFrom 11 = .ok (.getfield 11, 3) := by decide +kernel
theorem dX4_copyFrom_14 : decode cX4_copyFrom 14 = .ok (.iload_n 2, 1) := by decide +kernel
theorem dX4_copyFrom_15 : decode cX4_copyFrom 15 = .ok (.aaload, 1) := by decide +kernel
theorem dX4_copyFrom_16 : decode cX4_copyFrom 16 = .ok (.aload_n 1, 1) := by decide +kernel
theorem dX4_copyFrom_17 : decode cX4_copyFrom 17 = .ok (.getfield 11, 3) := by decide +kernel
theorem dX4_copyFrom_20 : decode cX4_copyFrom 20 = .ok (.iload_n 2, 1) := by decide +kernel
theorem dX4_copyFrom_21 : decode cX4_copyFrom 21 = .ok (.aaload, 1) := by decide +kernel
theorem dX4_copyFrom_22 : decode cX4_copyFrom 22 = .ok (.invokevirtual 36, 3) := by decide +kernel
theorem dX4_copyFrom_25 : decode cX4_copyFrom 25 = .ok (.iinc 2 1, 3) := by decide +kernel
theorem dX4_copyFrom_28 : decode cX4_copyFrom 28 = .ok (.goto (-26), 3) := by decide +kernel
theorem dX4_copyFrom_31 : decode cX4_copyFrom 31 = .ok (.aload_n 0, 1) := by decide +kernel
theorem dX4_copyFrom_32 : decode cX4_copyFrom 32 = .ok (.getfield 20, 3) := by decide +kernel
theorem dX4_copyFrom_35 : decode cX4_copyFrom 35 = .ok (.aload_n 1, 1) := by decide +kernel
theorem dX4_copyFrom_36 : decode cX4_copyFrom 36 = .ok (.getfield 20, 3) := by decide +kernel
theorem dX4_copyFrom_39 : decode cX4_copyFrom 39 = .ok (.invokevirtual 40, 3) := by decide +kernel
theorem dX4_copyFrom_42 : decode cX4_copyFrom 42 = .ok (.aload_n 0, 1) := by decide +kernel
theorem dX4_copyFrom_43 : decode cX4_copyFrom 43 = .ok (.getfield 27, 3) := by decide +kernel
theorem dX4_copyFrom_46 : decode cX4_copyFrom 46 = .ok (.aload_n 1, 1) := by decide +kernel
theorem dX4_copyFrom_47 : decode cX4_copyFrom 47 = .ok (.getfield 27, 3) := by decide +kernel
theorem dX4_copyFrom_50 : decode cX4_copyFrom 50 = .ok (.invokevirtual 43, 3) := by decide +kernel
theorem dX4_copyFrom_53 : decode cX4_copyFrom 53 = .ok (.aload_n 0, 1) := by decide +kernel
theorem dX4_copyFrom_54 : decode cX4_copyFrom 54 = .ok (.aload_n 1, 1) := by decide +kernel
theorem dX4_copyFrom_55 : decode cX4_copyFrom 55 = .ok (.getfield 32, 3) := by decide +kernel
theorem dX4_copyFrom_58 : decode cX4_copyFrom 58 = .ok (.putfield 32, 3) := by decide +kernel
theorem dX4_copyFrom_61 : decode cX4_copyFrom 61 = .ok (.aload_n 0, 1) := by decide +kernel
theorem dX4_copyFrom_62 : decode cX4_copyFrom 62 = .ok (.aload_n 1, 1) := by decide +kernel
theorem dX4_copyFrom_63 : decode cX4_copyFrom 63 = .ok (.getfield 46, 3) := by decide +kernel
theorem dX4_copyFrom_66 : decode cX4_copyFrom 66 = .ok (.putfield 46, 3) := by decide +kernel
theorem dX4_copyFrom_69 : decode cX4_copyFrom 69 = .ok (.aload_n 0, 1) := by decide +kernel
theorem dX4_copyFrom_70 : decode cX4_copyFrom 70 = .ok (.aload_n 1, 1) := by decide +kernel
theorem dX4_copyFrom_71 : decode cX4_copyFrom 71 = .ok (.getfield 49, 3) := by decide +kernel
theorem dX4_copyFrom_74 : decode cX4_copyFrom 74 = .ok (.putfield 49, 3) := by decide +kernel
theorem dX4_copyFrom_77 : decode cX4_copyFrom 77 = .ok (.aload_n 0, 1) := by decide +kernel
theorem dX4_copyFrom_78 : decode cX4_copyFrom 78 = .ok (.aload_n 1, 1) := by decide +kernel
theorem dX4_copyFrom_79 : decode cX4_copyFrom 79 = .ok (.getfield 52, 3) := by decide +kernel
theorem dX4_copyFrom_82 : decode cX4_copyFrom 82 = .ok (.putfield 52, 3) := by decide +kernel
theorem dX4_copyFrom_85 : decode cX4_copyFrom 85 = .ok (.aload_n 0, 1) := by decide +kernel
theorem dX4_copyFrom_86 : decode cX4_copyFrom 86 = .ok (.aload_n 1, 1) := by decide +kernel
theorem dX4_copyFrom_87 : decode cX4_copyFrom 87 = .ok (.getfield 55, 3) := by decide +kernel
theorem dX4_copyFrom_90 : decode cX4_copyFrom 90 = .ok (.putfield 55, 3) := by decide +kernel
theorem dX4_copyFrom_93 : decode cX4_copyFrom 93 = .ok (.aload_n 0, 1) := by decide +kernel
theorem dX4_copyFrom_94 : decode cX4_copyFrom 94 = .ok (.aload_n 1, 1) := by decide +kernel
theorem dX4_copyFrom_95 : decode cX4_copyFrom 95 = .ok (.getfield 58, 3) := by decide +kernel
theorem dX4_copyFrom_98 : decode cX4_copyFrom 98 = .ok (.putfield 58, 3) := by decide +kernel
theorem dX4_copyFrom_101 : decode cX4_copyFrom 101 = .ok (.return_, 1) := by decide +kernel
theorem dX4_hasPoint_0 : decode cX4_hasPoint 0 = .ok (.iload_n 1, 1) := by decide +kernel
theorem dX4_hasPoint_1 : decode cX4_hasPoint 1 = .ok (.iconst 0, 1) := by decide +kernel
theorem dX4_hasPoint_2 : decode cX4_hasPoint 2 = .ok (.aload_n 0, 1) := by decide +kernel
theorem dX4_hasPoint_3 : decode cX4_hasPoint 3 = .ok (.getfield 32, 3) := by decide +kernel
theorem dX4_hasPoint_6 : decode cX4_hasPoint 6 = .ok (.iconst 1, 1) := by decide +kernel
theorem dX4_hasPoint_7 : decode cX4_hasPoint 7 = .ok (.isub, 1) := by decide +kernel
theorem dX4_hasPoint_8 : decode cX4_hasPoint 8 = .ok (.invokestatic 61, 3) := by decide +kernel
theorem dX4_hasPoint_11 : decode cX4_hasPoint 11 = .ok (.ireturn, 1) := by decide +kernel
theorem dX4_addPoint_0 : decode cX4_addPoint 0 = .ok (.iload_n 1, 1) := by decide +kernel
theorem dX4_addPoint_1 : decode cX4_addPoint 1 = .ok (.sipush (-10000), 3) := by decide +kernel
theorem dX4_addPoint_4 : decode cX4_addPoint 4 = .ok (.sipush 10000, 3) := by decide +kernel
theorem dX4_addPoint_7 : decode cX4_addPoint 7 = .ok (.invokestatic 61, 3) := by decide +kernel
theorem dX4_addPoint_10 : decode cX4_addPoint 10 = .ok (.ifCond .eq 12, 3) := by decide +kernel
theorem dX4_addPoint_13 : decode cX4_addPoint 13 = .ok (.iload_n 2, 1) := by decide +kernel
theorem dX4_addPoint_14 : decode cX4_addPoint 14 = .ok (.iconst 1, 1) := by decide +kernel
theorem dX4_addPoint_15 : decode cX4_addPoint 15 = .ok (.iconst 4, 1) := by decide +kernel
theorem dX4_addPoint_16 : decode cX4_addPoint 16 = .ok (.invokestatic 61, 3) := by decide +kernel
theorem dX4_addPoint_19 : decode cX4_addPoint 19 = .ok (.ifCond .ne 7, 3) := by decide +kernel
theorem dX4_addPoint_22 : decode cX4_addPoint 22 = .ok (.sipush (-20001), 3) := by decide +kernel
theorem dX4_addPoint_25 : decode cX4_addPoint 25 = .ok (.ireturn, 1) := by decide +kernel
theorem dX4_addPoint_26 : decode cX4_addPoint 26 = .ok (.aload_n 0, 1) := by decide +kernel
theorem dX4_addPoint_27 : decode cX4_addPoint 27 = .ok (.getfield 32, 3) := by decide +kernel
theorem dX4_addPoint_30 : decode cX4_addPoint 30 = .ok (.bipush 16, 2) := by decide +kernel
theorem dX4_addPoint_32 : decode cX4_addPoint 32 = .ok (.if_icmp .lt 7, 3) := by decide +kernel
theorem dX4_addPoint_35 : decode cX4_addPoint 35 = .ok (.sipush (-20003), 3) := by decide +kernel
theorem dX4_addPoint_38 : decode cX4_addPoint 38 = .ok (.ireturn, 1) := by decide +kernel
theorem dX4_addPoint_39 : decode cX4_addPoint 39 = .ok (.aload_n 0, 1) := by decide +kernel
theorem dX4_addPoint_40 : decode cX4_addPoint 40 = .ok (.getfield 11, 3) := by decide +kernel
theorem dX4_addPoint_43 : decode cX4_addPoint 43 = .ok (.aload_n 0, 1) := by decide +kernel
theorem dX4_addPoint_44 : decode cX4_addPoint 44 = .ok (.getfield 32, 3) := by decide +kernel
theorem dX4_addPoint_47 : decode cX4_addPoint 47 = .ok (.aaload, 1) := by decide +kernel
theorem dX4_addPoint_48 : decode cX4_addPoint 48 = .ok (.iload_n 1, 1) := by decide +kernel
theorem dX4_addPoint_49 : decode cX4_addPoint 49 = .ok (.iload_n 2, 1) := by decide +kernel
theorem dX4_addPoint_50 : decode cX4_addPoint 50 = .ok (.invokevirtual 65, 3) := by decide +kernel
theorem dX4_addPoint_53 : decode cX4_addPoint 53 = .ok (.aload_n 0, 1) := by decide +kernel
theorem dX4_addPoint_54 : decode cX4_addPoint 54 = .ok (.dup, 1) := by decide +kernel
theorem dX4_addPoint_55 : decode cX4_addPoint 55 = .ok (.getfield 32, 3) := by decide +kernel
theorem dX4_addPoint_58 : decode cX4_addPoint 58 = .ok (.iconst 1, 1) := by decide +kernel
theorem dX4_addPoint_59 : decode cX4_addPoint 59 = .ok (.iadd, 1) := by decide +kernel
theorem dX4_addPoint_60 : decode cX4_addPoint 60 = .ok (.putfield 32, 3) := by decide +kernel
theorem dX4_addPoint_63 : decode cX4_addPoint 63 = .ok (.aload_n 0, 1) := by decide +kernel
theorem dX4_addPoint_64 : decode cX4_addPoint 64 = .ok (.getfield 32, 3) := by decide +kernel
theorem dX4_addPoint_67 : decode cX4_addPoint 67 = .ok (.iconst 1, 1) := by decide +kernel
theorem dX4_addPoint_68 : decode cX4_addPoint 68 = .ok (.isub, 1) := by decide +kernel
theorem dX4_addPoint_69 : decode cX4_addPoint 69 = .ok (.ireturn, 1) := by decide +kernel
theorem dX4_changeSetting_0 : decode cX4_changeSetting 0 = .ok (.aload_n 0, 1) := by decide +kernel
theorem dX4_changeSetting_1 : decode cX4_changeSetting 1 = .ok (.iload_n 1, 1) := by decide +kernel
theorem dX4_changeSetting_2 : decode cX4_changeSetting 2 = .ok (.invokevirtual 69, 3) := by decide +kernel
theorem dX4_changeSetting_5 : decode cX4_changeSetting 5 = .ok (.ifCond .eq 30, 3) := by decide +kernel
theorem dX4_changeSetting_8 : decode cX4_changeSetting 8 = .ok (.iload_n 2, 1) := by decide +kernel
theorem dX4_changeSetting_9 : decode cX4_changeSetting 9 = .ok (.iconst 0, 1) := by decide +kernel
theorem dX4_changeSetting_10 : decode cX4_changeSetting 10 = .ok (.bipush 6, 2) := by decide +kernel
theorem dX4_changeSetting_12 : decode cX4_changeSetting 12 = .ok (.invokestatic 61, 3) := by decide +kernel
theorem dX4_changeSetting_15 : decode cX4_changeSetting 15 = .ok (.ifCond .eq 20, 3) := by decide +kernel
theorem dX4_changeSetting_18 : decode cX4_changeSetting 18 = .ok (.iload_n 3, 1) := by decide +kernel
theorem dX4_changeSetting_19 : decode cX4_changeSetting 19 = .ok (.getstatic 73, 3) := by decide +kernel
theorem dX4_changeSetting_22 : decode cX4_changeSetting 22 = .ok (.iload_n 2, 1) := by decide +kernel
theorem dX4_changeSetting_23 : decode cX4_changeSetting 23 = .ok (.iaload, 1) := by decide +kernel
theorem dX4_changeSetting_24 : decode cX4_changeSetting 24 = .ok (.getstatic 77, 3) := by decide +kernel
theorem dX4_changeSetting_27 : decode cX4_changeSetting 27 = .ok (.iload_n 2, 1) := by decide +kernel
theorem dX4_changeSetting_28 : decode cX4_changeSetting 28 = .ok (.iaload, 1) := by decide +kernel
theorem dX4_changeSetting_29 : decode cX4_changeSetting 29 = .ok (.invokestatic 61, 3) := by decide +kernel
theorem dX4_changeSetting_32 : decode cX4_changeSetting 32 = .ok (.ifCond .ne 7, 3) := by decide +kernel
theorem dX4_changeSetting_35 : decode cX4_changeSetting 35 = .ok (.sipush (-20001), 3) := by decide +kernel
theorem dX4_changeSetting_38 : decode cX4_changeSetting 38 = .ok (.ireturn, 1) := by decide +kernel
theorem dX4_changeSetting_39 : decode cX4_changeSetting 39 = .ok (.aload_n 0, 1) := by decide +kernel
theorem dX4_changeSetting_40 : decode cX4_changeSetting 40 = .ok (.getfield 11, 3) := by decide +kernel
theorem dX4_changeSetting_43 : decode cX4_changeSetting 43 = .ok (.iload_n 1, 1) := by decide +kernel
theorem dX4_changeSetting_44 : decode cX4_changeSetting 44 = .ok (.aaload, 1) := by decide +kernel
theorem dX4_changeSetting_45 : decode cX4_changeSetting 45 = .ok (.astore 4, 2) := by decide +kernel
theorem dX4_changeSetting_47 : decode cX4_changeSetting 47 = .ok (.aload 4, 2) := by decide +kernel
theorem dX4_changeSetting_49 : decode cX4_changeSetting 49 = .ok (.getfield 80, 3) := by decide +kernel
theorem dX4_changeSetting_52 : decode cX4_changeSetting 52 = .ok (.iload_n 2, 1) := by decide +kernel
theorem dX4_changeSetting_53 : decode cX4_changeSetting 53 = .ok (.iaload, 1) := by decide +kernel
theorem dX4_changeSetting_54 : decode cX4_changeSetting 54 = .ok (.istore 5, 2) := by decide +kernel
theorem dX4_changeSetting_56 : decode cX4_changeSetting 56 = .ok (.aload 4, 2) := by decide +kernel
theorem dX4_changeSetting_58 : decode cX4_changeSetting 58 = .ok (.getfield 80, 3) := by decide +kernel
theorem dX4_changeSetting_61 : decode cX4_changeSetting 61 = .ok (.iload_n 2, 1) := by decide +kernel
theorem dX4_changeSetting_62 : decode cX4_changeSetting 62 = .ok (.iload_n 3, 1) := by decide +kernel
theorem dX4_changeSetting_63 : decode cX4_changeSetting 63 = .ok (.iastore, 1) := by decide +kernel
theorem dX4_changeSetting_64 : decode cX4_changeSetting 64 = .ok (.aload 4, 2) := by decide +kernel
theorem dX4_changeSetting_66 : decode cX4_changeSetting 66 = .ok (.invokevirtual 83, 3) := by decide +kernel
theorem dX4_changeSetting_69 : decode cX4_changeSetting 69 = .ok (.ifCond .eq 16, 3) := by decide +kernel
theorem dX4_changeSetting_72 : decode cX4_changeSetting 72 = .ok (.aload 4, 2) := by decide +kernel
theorem dX4_changeSetting_74 : decode cX4_changeSetting 74 = .ok (.invokevirtual 87, 3) := by decide +kernel
theorem dX4_changeSetting_77 : decode cX4_changeSetting 77 = .ok (.ifCond .eq 8, 3) := by decide +kernel
theorem dX4_changeSetting_80 : decode cX4_changeSetting 80 = .ok (.aload_n 0, 1) := by decide +kernel
theorem dX4_changeSetting_81 : decode cX4_changeSetting 81 = .ok (.iload_n 1, 1) := by decide +kernel
theorem dX4_changeSetting_82 : decode cX4_changeSetting 82 = .ok (.invokevirtual 90, 3) := by decide +kernel
theorem dX4_changeSetting_85 : decode cX4_changeSetting 85 = .ok (.iload 5, 2) := by decide +kernel
theorem dX4_changeSetting_87 : decode cX4_changeSetting 87 = .ok (.ireturn, 1) := by decide +kernel
theorem dX4_changeRoot_0 : decode cX4_changeRoot 0 = .ok (.aload_n 0, 1) := by decide +kernel
theorem dX4_changeRoot_1 : decode cX4_changeRoot 1 = .ok (.iload_n 1, 1) := by decide +kernel
theorem dX4_changeRoot_2 : decode cX4_changeRoot 2 = .ok (.invokevirtual 69, 3) := by decide +kernel
theorem dX4_changeRoot_5 : decode cX4_changeRoot 5 = .ok (.ifCond .eq 16, 3) := by decide +kernel
theorem dX4_changeRoot_8 : decode cX4_changeRoot 8 = .ok (.iload_n 2, 1) := by decide +kernel
theorem dX4_changeRoot_9 : decode cX4_changeRoot 9 = .ok (.iconst (-1), 1) := by decide +kernel
theorem dX4_changeRoot_10 : decode cX4_changeRoot 10 = .ok (.if_icmp .eq 15, 3) := by decide +kernel
theorem dX4_changeRoot_13 : decode cX4_changeRoot 13 = .ok (.aload_n 0, 1) := by decide +kernel
theorem dX4_changeRoot_14 : decode cX4_changeRoot 14 = .ok (.iload_n 2, 1) := by decide +kernel
theorem dX4_changeRoot_15 : decode cX4_changeRoot 15 = .ok (.invokevirtual 69, 3) := by decide +kernel
theorem dX4_changeRoot_18 : decode cX4_changeRoot 18 = .ok (.ifCond .ne 7, 3) := by decide +kernel
theorem dX4_changeRoot_21 : decode cX4_changeRoot 21 = .ok (.sipush (-20001), 3) := by decide +kernel
theorem dX4_changeRoot_24 : decode cX4_changeRoot 24 = .ok (.ireturn, 1) := by decide +kernel
theorem dX4_changeRoot_25 : decode cX4_changeRoot 25 = .ok (.aload_n 0, 1) := by decide +kernel
theorem dX4_changeRoot_26 : decode cX4_changeRoot 26 = .ok (.iload_n 1, 1) := by decide +kernel
theorem dX4_changeRoot_27 : decode cX4_changeRoot 27 = .ok (.iload_n 2, 1) := by decide +kernel
theorem dX4_changeRoot_28 : decode cX4_changeRoot 28 = .ok (.invokevirtual 94, 3) := by decide +kernel
theorem dX4_changeRoot_31 : decode cX4_changeRoot 31 = .ok (.ifCond .eq 7, 3) := by decide +kernel
theorem dX4_changeRoot_34 : decode cX4_changeRoot 34 = .ok (.sipush (-20002), 3) := by decide +kernel
theorem dX4_changeRoot_37 : decode cX4_changeRoot 37 = .ok (.ireturn, 1) := by decide +kernel
theorem dX4_changeRoot_38 : decode cX4_changeRoot 38 = .ok (.aload_n 0, 1) := by decide +kernel
theorem dX4_changeRoot_39 : decode cX4_changeRoot 39 = .ok (.getfield 11, 3) := by decide +kernel
theorem dX4_changeRoot_42 : decode cX4_changeRoot 42 = .ok (.iload_n 1, 1) := by decide +kernel
theorem dX4_changeRoot_43 : decode cX4_changeRoot 43 = .ok (.aaload, 1) := by decide +kernel
theorem dX4_changeRoot_44 : decode cX4_changeRoot 44 = .ok (.getfield 98, 3) := by decide +kernel
theorem dX4_changeRoot_47 : decode cX4_changeRoot 47 = .ok (.istore_n 3, 1) := by decide +kernel
theorem dX4_changeRoot_48 : decode cX4_changeRoot 48 = .ok (.aload_n 0, 1) := by decide +kernel
theorem dX4_changeRoot_49 : decode cX4_changeRoot 49 = .ok (.getfield 11, 3) := by decide +kernel
theorem dX4_changeRoot_52 : decode cX4_changeRoot 52 = .ok (.iload_n 1, 1) := by decide +kernel
theorem dX4_changeRoot_53 : decode cX4_changeRoot 53 = .ok (.aaload, 1) := by decide +kernel
theorem dX4_changeRoot_54 : decode cX4_changeRoot 54 = .ok (.iload_n 2, 1) := by decide +kernel
theorem dX4_changeRoot_55 : decode cX4_changeRoot 55 = .ok (.putfield 98, 3) := by decide +kernel
theorem dX4_changeRoot_58 : decode cX4_changeRoot 58 = .ok (.iload_n 3, 1) := by decide +kernel
theorem dX4_changeRoot_59 : decode cX4_changeRoot 59 = .ok (.ireturn, 1) := by decide +kernel
theorem dX4_isOnWayUp_0 : decode cX4_isOnWayUp 0 = .ok (.iload_n 2, 1) := by decide +kernel
theorem dX4_isOnWayUp_1 : decode cX4_isOnWayUp 1 = .ok (.istore_n 3, 1) := by decide +kernel
theorem dX4_isOnWayUp_2 : decode cX4_isOnWayUp 2 = .ok (.iconst 0, 1) := by decide +kernel
theorem dX4_isOnWayUp_3 : decode cX4_isOnWayUp 3 = .ok (.istore 4, 2) := by decide +kernel
theorem dX4_isOnWayUp_5 : decode cX4_isOnWayUp 5 = .ok (.iload 4, 2) := by decide +kernel
theorem dX4_isOnWayUp_7 : decode cX4_isOnWayUp 7 = .ok (.bipush 16, 2) := by decide +kernel
theorem dX4_isOnWayUp_9 : decode cX4_isOnWayUp 9 = .ok (.if_icmp .ge 34, 3) := by decide +kernel
theorem dX4_isOnWayUp_12 : decode cX4_isOnWayUp 12 = .ok (.aload_n 0, 1) := by decide +kernel
theorem dX4_isOnWayUp_13 : decode cX4_isOnWayUp 13 = .ok (.iload_n 3, 1) := by decide +kernel
theorem dX4_isOnWayUp_14 : decode cX4_isOnWayUp 14 = .ok (.invokevirtual 69, 3) := by decide +kernel
theorem dX4_isOnWayUp_17 : decode cX4_isOnWayUp 17 = .ok (.ifCond .eq 26, 3) := by decide +kernel
theorem dX4_isOnWayUp_20 : decode cX4_isOnWayUp 20 = .ok (.iload_n 3, 1) := by decide +kernel
theorem dX4_isOnWayUp_21 : decode cX4_isOnWayUp 21 = .ok (.iload_n 1, 1) := by decide +kernel
theorem dX4_isOnWayUp_22 : decode cX4_isOnWayUp 22 = .ok (.if_icmp .ne 5, 3) := by decide +kernel
theorem dX4_isOnWayUp_25 : decode cX4_isOnWayUp 25 = .ok (.iconst 1, 1) := by decide +kernel
theorem dX4_isOnWayUp_26 : decode cX4_isOnWayUp 26 = .ok (.ireturn, 1) := by decide +kernel
theorem dX4_isOnWayUp_27 : decode cX4_isOnWayUp 27 = .ok (.aload_n 0, 1) := by decide +kernel
theorem dX4_isOnWayUp_28 : decode cX4_isOnWayUp 28 = .ok (.getfield 11, 3) := by decide +kernel
theorem dX4_isOnWayUp_31 : decode cX4_isOnWayUp 31 = .ok (.iload_n 3, 1) := by decide +kernel
theorem dX4_isOnWayUp_32 : decode cX4_isOnWayUp 32 = .ok (.aaload, 1) := by decide +kernel
theorem dX4_isOnWayUp_33 : decode cX4_isOnWayUp 33 = .ok (.getfield 98, 3) := by decide +kernel
theorem dX4_isOnWayUp_36 : decode cX4_isOnWayUp 36 = .ok (.istore_n 3, 1) := by decide +kernel
theorem dX4_isOnWayUp_37 : decode cX4_isOnWayUp 37 = .ok (.iinc 4 1, 3) := by decide +kernel
theorem dX4_isOnWayUp_40 : decode cX4_isOnWayUp 40 = .ok (.goto (-35), 3) := by decide +kernel
theorem dX4_isOnWayUp_43 : decode cX4_isOnWayUp 43 = .ok (.iconst 0, 1) := by decide +kernel
theorem dX4_isOnWayUp_44 : decode cX4_isOnWayUp 44 = .ok (.ireturn, 1) := by decide +kernel
theorem dX4_changeValue_0 : decode cX4_changeValue 0 = .ok (.aload_n 0, 1) := by decide +kernel
theorem dX4_changeValue_1 : decode cX4_changeValue 1 = .ok (.iload_n 1, 1) := by decide +kernel
theorem dX4_changeValue_2 : decode cX4_changeValue 2 = .ok (.invokevirtual 69, 3) := by decide +kernel
theorem dX4_changeValue_5 : decode cX4_changeValue 5 = .ok (.ifCond .eq 16, 3) := by decide +kernel
theorem dX4_changeValue_8 : decode cX4_changeValue 8 = .ok (.iload_n 2, 1) := by decide +kernel
theorem dX4_changeValue_9 : decode cX4_changeValue 9 = .ok (.sipush (-10000), 3) := by decide +kernel
theorem dX4_changeValue_12 : decode cX4_changeValue 12 = .ok (.sipush 10000, 3) := by decide +kernel
theorem dX4_changeValue_15 : decode cX4_changeValue 15 = .ok (.invokestatic 61, 3) := by decide +kernel
theorem dX4_changeValue_18 : decode cX4_changeValue 18 = .ok (.ifCond .ne 7, 3) := by decide +kernel
theorem dX4_changeValue_21 : decode cX4_changeValue 21 = .ok (.sipush (-20001), 3) := by decide +kernel
theorem dX4_changeValue_24 : decode cX4_changeValue 24 = .ok (.ireturn, 1) := by decide +kernel
theorem dX4_changeValue_25 : decode cX4_changeValue 25 = .ok (.aload_n 0, 1) := by decide +kernel
theorem dX4_changeValue_26 : decode cX4_changeValue 26 = .ok (.getfield 11, 3) := by decide +kernel
theorem dX4_changeValue_29 : decode cX4_changeValue 29 = .ok (.iload_n 1, 1) := by decide +kernel
theorem dX4_changeValue_30 : decode cX4_changeValue 30 = .ok (.aaload, 1) := by decide +kernel
theorem dX4_changeValue_31 : decode cX4_changeValue 31 = .ok (.getfield 101, 3) := by decide +kernel
theorem dX4_changeValue_34 : decode cX4_changeValue 34 = .ok (.istore_n 3, 1) := by decide +kernel
theorem dX4_changeValue_35 : decode cX4_changeValue 35 = .ok (.aload_n 0, 1) := by decide +kernel
theorem dX4_changeValue_36 : decode cX4_changeValue 36 = .ok (.getfield 11, 3) := by decide +kernel
theorem dX4_changeValue_39 : decode cX4_changeValue 39 = .ok (.iload_n 1, 1) := by decide +kernel
theorem dX4_changeValue_40 : decode cX4_changeValue 40 = .ok (.aaload, 1) := by decide +kernel
theorem dX4_changeValue_41 : decode cX4_changeValue 41 = .ok (.iload_n 2, 1) := by decide +kernel
theorem dX4_changeValue_42 : decode cX4_changeValue 42 = .ok (.putfield 101, 3) := by decide +kernel
theorem dX4_changeValue_45 : decode cX4_changeValue 45 = .ok (.iload_n 3, 1) := by decide +kernel
theorem dX4_changeValue_46 : decode cX4_changeValue 46 = .ok (.ireturn, 1) := by decide +kernel
theorem dX4_changeMode_0 : decode cX4_changeMode 0 = .ok (.iload_n 1, 1) := by decide +kernel
theorem dX4_changeMode_1 : decode cX4_changeMode 1 = .ok (.iconst 0, 1) := by decide +kernel
theorem dX4_changeMode_2 : decode cX4_changeMode 2 = .ok (.iconst 3, 1) := by decide +kernel
theorem dX4_changeMode_3 : decode cX4_changeMode 3 = .ok (.invokestatic 61, 3) := by decide +kernel
theorem dX4_changeMode_6 : decode cX4_changeMode 6 = .ok (.ifCond .ne 7, 3) := by decide +kernel
theorem dX4_changeMode_9 : decode cX4_changeMode 9 = .ok (.sipush (-20001), 3) := by decide +kernel
theorem dX4_changeMode_12 : decode cX4_changeMode 12 = .ok (.ireturn, 1) := by decide +kernel
theorem dX4_changeMode_13 : decode cX4_changeMode 13 = .ok (.aload_n 0, 1) := by decide +kernel
theorem dX4_changeMode_14 : decode cX4_changeMode 14 = .ok (.getfield 49, 3) := by decide +kernel
theorem dX4_changeMode_17 : decode cX4_changeMode 17 = .ok (.istore_n 2, 1) := by decide +kernel
theorem dX4_changeMode_18 : decode cX4_changeMode 18 = .ok (.aload_n 0, 1) := by decide +kernel
theorem dX4_changeMode_19 : decode cX4_changeMode 19 = .ok (.iload_n 1, 1) := by decide +kernel
theorem dX4_changeMode_20 : decode cX4_changeMode 20 = .ok (.putfield 49, 3) := by decide +kernel
theorem dX4_changeMode_23 : decode cX4_changeMode 23 = .ok (.iload_n 2, 1) := by decide +kernel
theorem dX4_changeMode_24 : decode cX4_changeMode 24 = .ok (.ireturn, 1) := by decide +kernel
theorem dX4_changeFlood_0 : decode cX4_changeFlood 0 = .ok (.iload_n 1, 1) := by decide +kernel
theorem dX4_changeFlood_1 : decode cX4_changeFlood 1 = .ok (.iconst 1, 1) := by decide +kernel
theorem dX4_changeFlood_2 : decode cX4_changeFlood 2 = .ok (.bipush 60, 2) := by decide +kernel
theorem dX4_changeFlood_4 : decode cX4_changeFlood 4 = .ok (.invokestatic 61, 3) := by decide +kernel
theorem dX4_changeFlood_7 : decode cX4_changeFlood 7 = .ok (.ifCond .eq 22, 3) := by decide +kernel
theorem dX4_changeFlood_10 : decode cX4_changeFlood 10 = .ok (.iload_n 2, 1) := by decide +kernel
theorem dX4_changeFlood_11 : decode cX4_changeFlood 11 = .ok (.iconst 1, 1) := by decide +kernel
theorem dX4_changeFlood_12 : decode cX4_changeFlood 12 = .ok (.bipush 50, 2) := by decide +kernel
theorem dX4_changeFlood_14 : decode cX4_changeFlood 14 = .ok (.invokestatic 61, 3) := by decide +kernel
theorem dX4_changeFlood_17 : decode cX4_changeFlood 17 = .ok (.ifCond .eq 12, 3) := by decide +kernel
theorem dX4_changeFlood_20 : decode cX4_changeFlood 20 = .ok (.iload_n 3, 1) := by decide +kernel
theorem dX4_changeFlood_21 : decode cX4_changeFlood 21 = .ok (.iconst 0, 1) := by decide +kernel
theorem dX4_changeFlood_22 : decode cX4_changeFlood 22 = .ok (.iload_n 2, 1) := by decide +kernel
theorem dX4_changeFlood_23 : decode cX4_changeFlood 23 = .ok (.invokestatic 61, 3) := by decide +kernel
theorem dX4_changeFlood_26 : decode cX4_changeFlood 26 = .ok (.ifCond .ne 7, 3) := by decide +kernel
theorem dX4_changeFlood_29 : decode cX4_changeFlood 29 = .ok (.sipush (-20001), 3) := by decide +kernel
theorem dX4_changeFlood_32 : decode cX4_changeFlood 32 = .ok (.ireturn, 1) := by decide +kernel
theorem dX4_changeFlood_33 : decode cX4_changeFlood 33 = .ok (.sipush 10000, 3) := by decide +kernel
theorem dX4_changeFlood_36 : decode cX4_changeFlood 36 = .ok (.aload_n 0, 1) := by decide +kernel
theorem dX4_changeFlood_37 : decode cX4_changeFlood 37 = .ok (.getfield 20, 3) := by decide +kernel
theorem dX4_changeFlood_40 : decode cX4_changeFlood 40 = .ok (.getfield 104, 3) := by decide +kernel
theorem dX4_changeFlood_43 : decode cX4_changeFlood 43 = .ok (.imul, 1) := by decide +kernel
theorem dX4_changeFlood_44 : decode cX4_changeFlood 44 = .ok (.bipush 100, 2) := by decide +kernel
theorem dX4_changeFlood_46 : decode cX4_changeFlood 46 = .ok (.aload_n 0, 1) := by decide +kernel
theorem dX4_changeFlood_47 : decode cX4_changeFlood 47 = .ok (.getfield 20, 3) := by decide +kernel
theorem dX4_changeFlood_50 : decode cX4_changeFlood 50 = .ok (.getfield 107, 3) := by decide +kernel
theorem dX4_changeFlood_53 : decode cX4_changeFlood 53 = .ok (.imul, 1) := by decide +kernel
theorem dX4_changeFlood_54 : decode cX4_changeFlood 54 = .ok (.iadd, 1) := by decide +kernel
theorem dX4_changeFlood_55 : decode cX4_changeFlood 55 = .ok (.aload_n 0, 1) := by decide +kernel
theorem dX4_changeFlood_56 : decode cX4_changeFlood 56 = .ok (.getfield 20, 3) := by decide +kernel
theorem dX4_changeFlood_59 : decode cX4_changeFlood 59 = .ok (.getfield 110, 3) := by decide +kernel
theorem dX4_changeFlood_62 : decode cX4_changeFlood 62 = .ok (.iadd, 1) := by decide +kernel
theorem dX4_changeFlood_63 : decode cX4_changeFlood 63 = .ok (.istore 4, 2) := by decide +kernel
theorem dX4_changeFlood_65 : decode cX4_changeFlood 65 = .ok (.aload_n 0, 1) := by decide +kernel
theorem dX4_changeFlood_66 : decode cX4_changeFlood 66 = .ok (.getfield 20, 3) := by decide +kernel
theorem dX4_changeFlood_69 : decode cX4_changeFlood 69 = .ok (.iload_n 1, 1) := by decide +kernel
theorem dX4_changeFlood_70 : decode cX4_changeFlood 70 = .ok (.putfield 104, 3) := by decide +kernel
theorem dX4_changeFlood_73 : decode cX4_changeFlood 73 = .ok (.aload_n 0, 1) := by decide +kernel
theorem dX4_changeFlood_74 : decode cX4_changeFlood 74 = .ok (.getfield 20, 3) := by decide +kernel
theorem dX4_changeFlood_77 : decode cX4_changeFlood 77 = .ok (.iload_n 2, 1) := by decide +kernel
theorem dX4_changeFlood_78 : decode cX4_changeFlood 78 = .ok (.putfield 107, 3) := by decide +kernel
theorem dX4_changeFlood_81 : decode cX4_changeFlood 81 = .ok (.aload_n 0, 1) := by decide +kernel
theorem dX4_changeFlood_82 : decode cX4_changeFlood 82 = .ok (.getfield 20, 3) := by decide +kernel
theorem dX4_changeFlood_85 : decode cX4_changeFlood 85 = .ok (.iload_n 3, 1) := by decide +kernel
theorem dX4_changeFlood_86 : decode cX4_changeFlood 86 = .ok (.putfield 110, 3) := by decide +kernel
theorem dX4_changeFlood_89 : decode cX4_changeFlood 89 = .ok (.iload 4, 2) := by decide +kernel
theorem dX4_changeFlood_91 : decode cX4_changeFlood 91 = .ok (.ireturn, 1) := by decide +kernel
theorem dX4_passTicks_0 : decode cX4_passTicks 0 = .ok (.iload_n 1, 1) := by decide +kernel
theorem dX4_passTicks_1 : decode cX4_passTicks 1 = .ok (.iconst 1, 1) := by decide +kernel
theorem dX4_passTicks_2 : decode cX4_passTicks 2 = .ok (.bipush 100, 2) := by decide +kernel
theorem dX4_passTicks_4 : decode cX4_passTicks 4 = .ok (.invokestatic 61, 3) := by decide +kernel
theorem dX4_passTicks_7 : decode cX4_passTicks 7 = .ok (.ifCond .ne 7, 3) := by decide +kernel
theorem dX4_passTicks_10 : decode cX4_passTicks 10 = .ok (.sipush (-20001), 3) := by decide +kernel
theorem dX4_passTicks_13 : decode cX4_passTicks 13 = .ok (.ireturn, 1) := by decide +kernel
theorem dX4_passTicks_14 : decode cX4_passTicks 14 = .ok (.aload_n 0, 1) := by decide +kernel
theorem dX4_passTicks_15 : decode cX4_passTicks 15 = .ok (.getfield 46, 3) := by decide +kernel
theorem dX4_passTicks_18 : decode cX4_passTicks 18 = .ok (.iload_n 1, 1) := by decide +kernel
theorem dX4_passTicks_19 : decode cX4_passTicks 19 = .ok (.iadd, 1) := by decide +kernel
theorem dX4_passTicks_20 : decode cX4_passTicks 20 = .ok (.sipush 10000, 3) := by decide +kernel
theorem dX4_passTicks_23 : decode cX4_passTicks 23 = .ok (.if_icmp .le 7, 3) := by decide +kernel
theorem dX4_passTicks_26 : decode cX4_passTicks 26 = .ok (.sipush (-20002), 3) := by decide +kernel
theorem dX4_passTicks_29 : decode cX4_passTicks 29 = .ok (.ireturn, 1) := by decide +kernel
theorem dX4_passTicks_30 : decode cX4_passTicks 30 = .ok (.iconst 0, 1) := by decide +kernel
theorem dX4_passTicks_31 : decode cX4_passTicks 31 = .ok (.istore_n 2, 1) := by decide +kernel
theorem dX4_passTicks_32 : decode cX4_passTicks 32 = .ok (.iload_n 2, 1) := by decide +kernel
theorem dX4_passTicks_33 : decode cX4_passTicks 33 = .ok (.iload_n 1, 1) := by decide +kernel
theorem dX4_passTicks_34 : decode cX4_passTicks 34 = .ok (.if_icmp .ge 13, 3) := by decide +kernel
theorem dX4_passTicks_37 : decode cX4_passTicks 37 = .ok (.aload_n 0, 1) := by decide +kernel
theorem dX4_passTicks_38 : decode cX4_passTicks 38 = .ok (.invokevirtual 113, 3) := by decide +kernel
theorem dX4_passTicks_41 : decode cX4_passTicks 41 = .ok (.iinc 2 1, 3) := by decide +kernel
theorem dX4_passTicks_44 : decode cX4_passTicks 44 = .ok (.goto (-12), 3) := by decide +kernel
theorem dX4_passTicks_47 : decode cX4_passTicks 47 = .ok (.aload_n 0, 1) := by decide +kernel
theorem dX4_passTicks_48 : decode cX4_passTicks 48 = .ok (.getfield 46, 3) := by decide +kernel
theorem dX4_passTicks_51 : decode cX4_passTicks 51 = .ok (.ireturn, 1) := by decide +kernel
theorem dX4_passTick_0 : decode cX4_passTick 0 = .ok (.aload_n 0, 1) := by decide +kernel
theorem dX4_passTick_1 : decode cX4_passTick 1 = .ok (.dup, 1) := by decide +kernel
theorem dX4_passTick_2 : decode cX4_passTick 2 = .ok (.getfield 46, 3) := by decide +kernel
theorem dX4_passTick_5 : decode cX4_passTick 5 = .ok (.iconst 1, 1) := by decide +kernel
theorem dX4_passTick_6 : decode cX4_passTick 6 = .ok (.iadd, 1) := by decide +kernel
theorem dX4_passTick_7 : decode cX4_passTick 7 = .ok (.putfield 46, 3) := by decide +kernel
theorem dX4_passTick_10 : decode cX4_passTick 10 = .ok (.aload_n 0, 1) := by decide +kernel
theorem dX4_passTick_11 : decode cX4_passTick 11 = .ok (.getfield 20, 3) := by decide +kernel
theorem dX4_passTick_14 : decode cX4_passTick 14 = .ok (.aload_n 0, 1) := by decide +kernel
theorem dX4_passTick_15 : decode cX4_passTick 15 = .ok (.getfield 46, 3) := by decide +kernel
theorem dX4_passTick_18 : decode cX4_passTick 18 = .ok (.invokevirtual 116, 3) := by decide +kernel
theorem dX4_passTick_21 : decode cX4_passTick 21 = .ok (.iconst 0, 1) := by decide +kernel
theorem dX4_passTick_22 : decode cX4_passTick 22 = .ok (.istore_n 1, 1) := by decide +kernel
theorem dX4_passTick_23 : decode cX4_passTick 23 = .ok (.iload_n 1, 1) := by decide +kernel
theorem dX4_passTick_24 : decode cX4_passTick 24 = .ok (.aload_n 0, 1) := by decide +kernel
theorem dX4_passTick_25 : decode cX4_passTick 25 = .ok (.getfield 32, 3) := by decide +kernel
theorem dX4_passTick_28 : decode cX4_passTick 28 = .ok (.if_icmp .ge 14, 3) := by decide +kernel
theorem dX4_passTick_31 : decode cX4_passTick 31 = .ok (.aload_n 0, 1) := by decide +kernel
theorem dX4_passTick_32 : decode cX4_passTick 32 = .ok (.iload_n 1, 1) := by decide +kernel
theorem dX4_passTick_33 : decode cX4_passTick 33 = .ok (.invokevirtual 119, 3) := by decide +kernel
theorem dX4_passTick_36 : decode cX4_passTick 36 = .ok (.iinc 1 1, 3) := by decide +kernel
theorem dX4_passTick_39 : decode cX4_passTick 39 = .ok (.goto (-16), 3) := by decide +kernel
theorem dX4_passTick_42 : decode cX4_passTick 42 = .ok (.iconst 0, 1) := by decide +kernel
theorem dX4_passTick_43 : decode cX4_passTick 43 = .ok (.istore_n 1, 1) := by decide +kernel
theorem dX4_passTick_44 : decode cX4_passTick 44 = .ok (.iload_n 1, 1) := by decide +kernel
theorem dX4_passTick_45 : decode cX4_passTick 45 = .ok (.aload_n 0, 1) := by decide +kernel
theorem dX4_passTick_46 : decode cX4_passTick 46 = .ok (.getfield 32, 3) := by decide +kernel
theorem dX4_passTick_49 : decode cX4_passTick 49 = .ok (.if_icmp .ge 42, 3) := by decide +kernel
theorem dX4_passTick_52 : decode cX4_passTick 52 = .ok (.aload_n 0, 1) := by decide +kernel
theorem dX4_passTick_53 : decode cX4_passTick 53 = .ok (.getfield 11, 3) := by decide +kernel
theorem dX4_passTick_56 : decode cX4_passTick 56 = .ok (.iload_n 1, 1) := by decide +kernel
theorem dX4_passTick_57 : decode cX4_passTick 57 = .ok (.aaload, 1) := by decide +kernel
theorem dX4_passTick_58 : decode cX4_passTick 58 = .ok (.invokevirtual 87, 3) := by decide +kernel
theorem dX4_passTick_61 : decode cX4_passTick 61 = .ok (.ifCond .eq 24, 3) := by decide +kernel
theorem dX4_passTick_64 : decode cX4_passTick 64 = .ok (.aload_n 0, 1) := by decide +kernel
theorem dX4_passTick_65 : decode cX4_passTick 65 = .ok (.getfield 46, 3) := by decide +kernel
theorem dX4_passTick_68 : decode cX4_passTick 68 = .ok (.aload_n 0, 1) := by decide +kernel
theorem dX4_passTick_69 : decode cX4_passTick 69 = .ok (.getfield 11, 3) := by decide +kernel
theorem dX4_passTick_72 : decode cX4_passTick 72 = .ok (.iload_n 1, 1) := by decide +kernel
theorem dX4_passTick_73 : decode cX4_passTick 73 = .ok (.aaload, 1) := by decide +kernel
theorem dX4_passTick_74 : decode cX4_passTick 74 = .ok (.getfield 122, 3) := by decide +kernel
theorem dX4_passTick_77 : decode cX4_passTick 77 = .ok (.if_icmp .lt 8, 3) := by decide +kernel
theorem dX4_passTick_80 : decode cX4_passTick 80 = .ok (.aload_n 0, 1) := by decide +kernel
theorem dX4_passTick_81 : decode cX4_passTick 81 = .ok (.iload_n 1, 1) := by decide +kernel
theorem dX4_passTick_82 : decode cX4_passTick 82 = .ok (.invokevirtual 90, 3) := by decide +kernel
theorem dX4_passTick_85 : decode cX4_passTick 85 = .ok (.iinc 1 1, 3) := by decide +kernel
theorem dX4_passTick_88 : decode cX4_passTick 88 = .ok (.goto (-44), 3) := by decide +kernel
theorem dX4_passTick_91 : decode cX4_passTick 91 = .ok (.aload_n 0, 1) := by decide +kernel
theorem dX4_passTick_92 : decode cX4_passTick 92 = .ok (.invokevirtual 125, 3) := by decide +kernel
theorem dX4_passTick_95 : decode cX4_passTick 95 = .ok (.iconst 0, 1) := by decide +kernel
theorem dX4_passTick_96 : decode cX4_passTick 96 = .ok (.istore_n 1, 1) := by decide +kernel
theorem dX4_passTick_97 : decode cX4_passTick 97 = .ok (.iload_n 1, 1) := by decide +kernel
theorem dX4_passTick_98 : decode cX4_passTick 98 = .ok (.aload_n 0, 1) := by decide +kernel
theorem dX4_passTick_99 : decode cX4_passTick 99 = .ok (.getfield 32, 3) := by decide +kernel
theorem dX4_passTick_102 : decode cX4_passTick 102 = .ok (.if_icmp .ge 18, 3) := by decide +kernel
theorem dX4_passTick_105 : decode cX4_passTick 105 = .ok (.aload_n 0, 1) := by decide +kernel
theorem dX4_passTick_106 : decode cX4_passTick 106 = .ok (.getfield 11, 3) := by decide +kernel
theorem dX4_passTick_109 : decode cX4_passTick 109 = .ok (.iload_n 1, 1) := by decide +kernel
theorem dX4_passTick_110 : decode cX4_passTick 110 = .ok (.aaload, 1) := by decide +kernel
theorem dX4_passTick_111 : decode cX4_passTick 111 = .ok (.invokevirtual 128, 3) := by decide +kernel
theorem dX4_passTick_114 : decode cX4_passTick 114 = .ok (.iinc 1 1, 3) := by decide +kernel
theorem dX4_passTick_117 : decode cX4_passTick 117 = .ok (.goto (-20), 3) := by decide +kernel
theorem dX4_passTick_120 : decode cX4_passTick 120 = .ok (.return_, 1) := by decide +kernel
theorem dX4_movePoint_0 : decode cX4_movePoint 0 = .ok (.aload_n 0, 1) := by decide +kernel
theorem dX4_movePoint_1 : decode cX4_movePoint 1 = .ok (.getfield 11, 3) := by decide +kernel
theorem dX4_movePoint_4 : decode cX4_movePoint 4 = .ok (.iload_n 1, 1) := by decide +kernel
theorem dX4_movePoint_5 : decode cX4_movePoint 5 = .ok (.aaload, 1) := by decide +kernel
theorem dX4_movePoint_6 : decode cX4_movePoint 6 = .ok (.astore_n 2, 1) := by decide +kernel
theorem dX4_movePoint_7 : decode cX4_movePoint 7 = .ok (.aload_n 2, 1) := by decide +kernel
theorem dX4_movePoint_8 : decode cX4_movePoint 8 = .ok (.aload_n 2, 1) := by decide +kernel
theorem dX4_movePoint_9 : decode cX4_movePoint 9 = .ok (.invokevirtual 131, 3) := by decide +kernel
theorem dX4_movePoint_12 : decode cX4_movePoint 12 = .ok (.ifCond .eq 12, 3) := by decide +kernel
theorem dX4_movePoint_15 : decode cX4_movePoint 15 = .ok (.aload_n 2, 1) := by decide +kernel
theorem dX4_movePoint_16 : decode cX4_movePoint 16 = .ok (.getfield 134, 3) := by decide +kernel
theorem dX4_movePoint_19 : decode cX4_movePoint 19 = .ok (.iconst 1, 1) := by decide +kernel
theorem dX4_movePoint_20 : decode cX4_movePoint 20 = .ok (.iadd, 1) := by decide +kernel
theorem dX4_movePoint_21 : decode cX4_movePoint 21 = .ok (.goto 4, 3) := by decide +kernel
theorem dX4_movePoint_24 : decode cX4_movePoint 24 = .ok (.iconst 0, 1) := by decide +kernel
theorem dX4_movePoint_25 : decode cX4_movePoint 25 = .ok (.putfield 134, 3) := by decide +kernel
theorem dX4_movePoint_28 : decode cX4_movePoint 28 = .ok (.aload_n 2, 1) := by decide +kernel
theorem dX4_movePoint_29 : decode cX4_movePoint 29 = .ok (.getfield 134, 3) := by decide +kernel
theorem dX4_movePoint_32 : decode cX4_movePoint 32 = .ok (.aload_n 2, 1) := by decide +kernel
theorem dX4_movePoint_33 : decode cX4_movePoint 33 = .ok (.aload_n 2, 1) := by decide +kernel
theorem dX4_movePoint_34 : decode cX4_movePoint 34 = .ok (.getfield 137, 3) := by decide +kernel
theorem dX4_movePoint_37 : decode cX4_movePoint 37 = .ok (.invokevirtual 141, 3) := by decide +kernel
theorem dX4_movePoint_40 : decode cX4_movePoint 40 = .ok (.if_icmp .gt 4, 3) := by decide +kernel
theorem dX4_movePoint_43 : decode cX4_movePoint 43 = .ok (.return_, 1) := by decide +kernel
theorem dX4_movePoint_44 : decode cX4_movePoint 44 = .ok (.aload_n 2, 1) := by decide +kernel
theorem dX4_movePoint_45 : decode cX4_movePoint 45 = .ok (.iconst 0, 1) := by decide +kernel
theorem dX4_movePoint_46 : decode cX4_movePoint 46 = .ok (.putfield 134, 3) := by decide +kernel
theorem dX4_movePoint_49 : decode cX4_movePoint 49 = .ok (.aload_n 2, 1) := by decide +kernel
theorem dX4_movePoint_50 : decode cX4_movePoint 50 = .ok (.getfield 137, 3) := by decide +kernel
theorem dX4_movePoint_53 : decode cX4_movePoint 53 = .ok (.ifCond .eq 24, 3) := by decide +kernel
theorem dX4_movePoint_56 : decode cX4_movePoint 56 = .ok (.aload_n 2, 1) := by decide +kernel
theorem dX4_movePoint_57 : decode cX4_movePoint 57 = .ok (.iconst 0, 1) := by decide +kernel
theorem dX4_movePoint_58 : decode cX4_movePoint 58 = .ok (.putfield 137, 3) := by decide +kernel
theorem dX4_movePoint_61 : decode cX4_movePoint 61 = .ok (.aload_n 0, 1) := by decide +kernel
theorem dX4_movePoint_62 : decode cX4_movePoint 62 = .ok (.getfield 27, 3) := by decide +kernel
theorem dX4_movePoint_65 : decode cX4_movePoint 65 = .ok (.aload_n 0, 1) := by decide +kernel
theorem dX4_movePoint_66 : decode cX4_movePoint 66 = .ok (.getfield 46, 3) := by decide +kernel
theorem dX4_movePoint_69 : decode cX4_movePoint 69 = .ok (.iconst 2, 1) := by decide +kernel
theorem dX4_movePoint_70 : decode cX4_movePoint 70 = .ok (.iload_n 1, 1) := by decide +kernel
theorem dX4_movePoint_71 : decode cX4_movePoint 71 = .ok (.invokevirtual 145, 3) := by decide +kernel
theorem dX4_movePoint_74 : decode cX4_movePoint 74 = .ok (.goto 8, 3) := by decide +kernel
theorem dX4_movePoint_77 : decode cX4_movePoint 77 = .ok (.aload_n 0, 1) := by decide +kernel
theorem dX4_movePoint_78 : decode cX4_movePoint 78 = .ok (.iload_n 1, 1) := by decide +kernel
theorem dX4_movePoint_79 : decode cX4_movePoint 79 = .ok (.invokevirtual 149, 3) := by decide +kernel
theorem dX4_movePoint_82 : decode cX4_movePoint 82 = .ok (.return_, 1) := by decide +kernel
theorem dX4_activate_0 : decode cX4_activate 0 = .ok (.aload_n 0, 1) := by decide +kernel
theorem dX4_activate_1 : decode cX4_activate 1 = .ok (.getfield 11, 3) := by decide +kernel
theorem dX4_activate_4 : decode cX4_activate 4 = .ok (.iload_n 1, 1) := by decide +kernel
theorem dX4_activate_5 : decode cX4_activate 5 = .ok (.aaload, 1) := by decide +kernel
theorem dX4_activate_6 : decode cX4_activate 6 = .ok (.astore_n 2, 1) := by decide +kernel
theorem dX4_activate_7 : decode cX4_activate 7 = .ok (.aload_n 2, 1) := by decide +kernel
theorem dX4_activate_8 : decode cX4_activate 8 = .ok (.iconst 1, 1) := by decide +kernel
theorem dX4_activate_9 : decode cX4_activate 9 = .ok (.putfield 137, 3) := by decide +kernel
theorem dX4_activate_12 : decode cX4_activate 12 = .ok (.aload_n 2, 1) := by decide +kernel
theorem dX4_activate_13 : decode cX4_activate 13 = .ok (.iconst 0, 1) := by decide +kernel
theorem dX4_activate_14 : decode cX4_activate 14 = .ok (.putfield 152, 3) := by decide +kernel
theorem dX4_activate_17 : decode cX4_activate 17 = .ok (.aload_n 2, 1) := by decide +kernel
theorem dX4_activate_18 : decode cX4_activate 18 = .ok (.aload_n 0, 1) := by decide +kernel
theorem dX4_activate_19 : decode cX4_activate 19 = .ok (.getfield 46, 3) := by decide +kernel
theorem dX4_activate_22 : decode cX4_activate 22 = .ok (.putfield 155, 3) := by decide +kernel
theorem dX4_activate_25 : decode cX4_activate 25 = .ok (.aload_n 2, 1) := by decide +kernel
theorem dX4_activate_26 : decode cX4_activate 26 = .ok (.dup, 1) := by decide +kernel
theorem dX4_activate_27 : decode cX4_activate 27 = .ok (.getfield 158, 3) := by decide +kernel
theorem dX4_activate_30 : decode cX4_activate 30 = .ok (.iconst 1, 1) := by decide +kernel
theorem dX4_activate_31 : decode cX4_activate 31 = .ok (.iadd, 1) := by decide +kernel
theorem dX4_activate_32 : decode cX4_activate 32 = .ok (.putfield 158, 3) := by decide +kernel
theorem dX4_activate_35 : decode cX4_activate 35 = .ok (.aload_n 0, 1) := by decide +kernel
theorem dX4_activate_36 : decode cX4_activate 36 = .ok (.dup, 1) := by decide +kernel
theorem dX4_activate_37 : decode cX4_activate 37 = .ok (.getfield 52, 3) := by decide +kernel
theorem dX4_activate_40 : decode cX4_activate 40 = .ok (.iconst 1, 1) := by decide +kernel
theorem dX4_activate_41 : decode cX4_activate 41 = .ok (.iadd, 1) := by decide +kernel
theorem dX4_activate_42 : decode cX4_activate 42 = .ok (.putfield 52, 3) := by decide +kernel
theorem dX4_activate_45 : decode cX4_activate 45 = .ok (.aload_n 0, 1) := by decide +kernel
theorem dX4_activate_46 : decode cX4_activate 46 = .ok (.getfield 20, 3) := by decide +kernel
theorem dX4_activate_49 : decode cX4_activate 49 = .ok (.aload_n 0, 1) := by decide +kernel
theorem dX4_activate_50 : decode cX4_activate 50 = .ok (.getfield 46, 3) := by decide +kernel
theorem dX4_activate_53 : decode cX4_activate 53 = .ok (.invokevirtual 159, 3) := by decide +kernel
theorem dX4_activate_56 : decode cX4_activate 56 = .ok (.aload_n 0, 1) := by decide +kernel
theorem dX4_activate_57 : decode cX4_activate 57 = .ok (.getfield 27, 3) := by decide +kernel
theorem dX4_activate_60 : decode cX4_activate 60 = .ok (.aload_n 0, 1) := by decide +kernel
theorem dX4_activate_61 : decode cX4_activate 61 = .ok (.getfield 46, 3) := by decide +kernel
theorem dX4_activate_64 : decode cX4_activate 64 = .ok (.iconst 1, 1) := by decide +kernel
theorem dX4_activate_65 : decode cX4_activate 65 = .ok (.iload_n 1, 1) := by decide +kernel
theorem dX4_activate_66 : decode cX4_activate 66 = .ok (.invokevirtual 145, 3) := by decide +kernel
theorem dX4_activate_69 : decode cX4_activate 69 = .ok (.return_, 1) := by decide +kernel
theorem dX4_endShelf_0 : decode cX4_endShelf 0 = .ok (.aload_n 0, 1) := by decide +kernel
theorem dX4_endShelf_1 : decode cX4_endShelf 1 = .ok (.getfield 11, 3) := by decide +kernel
theorem dX4_endShelf_4 : decode cX4_endShelf 4 = .ok (.iload_n 1, 1) := by decide +kernel
theorem dX4_endShelf_5 : decode cX4_endShelf 5 = .ok (.aaload, 1) := by decide +kernel
theorem dX4_endShelf_6 : decode cX4_endShelf 6 = .ok (.iconst 0, 1) := by decide +kernel
theorem dX4_endShelf_7 : decode cX4_endShelf 7 = .ok (.putfield 122, 3) := by decide +kernel
theorem dX4_endShelf_10 : decode cX4_endShelf 10 = .ok (.aload_n 0, 1) := by decide +kernel
theorem dX4_endShelf_11 : decode cX4_endShelf 11 = .ok (.getfield 27, 3) := by decide +kernel
theorem dX4_endShelf_14 : decode cX4_endShelf 14 = .ok (.aload_n 0, 1) := by decide +kernel
theorem dX4_endShelf_15 : decode cX4_endShelf 15 = .ok (.getfield 46, 3) := by decide +kernel
theorem dX4_endShelf_18 : decode cX4_endShelf 18 = .ok (.iconst 5, 1) := by decide +kernel
theorem dX4_endShelf_19 : decode cX4_endShelf 19 = .ok (.iload_n 1, 1) := by decide +kernel
theorem dX4_endShelf_20 : decode cX4_endShelf 20 = .ok (.invokevirtual 145, 3) := by decide +kernel
theorem dX4_endShelf_23 : decode cX4_endShelf 23 = .ok (.return_, 1) := by decide +kernel
theorem dX4_lookAtFlood_0 : decode cX4_lookAtFlood 0 = .ok (.aload_n 0, 1) := by decide +kernel
theorem dX4_lookAtFlood_1 : decode cX4_lookAtFlood 1 = .ok (.getfield 20, 3) := by decide +kernel
theorem dX4_lookAtFlood_4 : decode cX4_lookAtFlood 4 = .ok (.aload_n 0, 1) := by decide +kernel
theorem dX4_lookAtFlood_5 : decode cX4_lookAtFlood 5 = .ok (.getfield 46, 3) := by decide +kernel
theorem dX4_lookAtFlood_8 : decode cX4_lookAtFlood 8 = .ok (.invokevirtual 162, 3) := by decide +kernel
theorem dX4_lookAtFlood_11 : decode cX4_lookAtFlood 11 = .ok (.istore_n 1, 1) := by decide +kernel
theorem dX4_lookAtFlood_12 : decode cX4_lookAtFlood 12 = .ok (.aload_n 0, 1) := by decide +kernel
theorem dX4_lookAtFlood_13 : decode cX4_lookAtFlood 13 = .ok (.getfield 20, 3) := by decide +kernel
theorem dX4_lookAtFlood_16 : decode cX4_lookAtFlood 16 = .ok (.getfield 166, 3) := by decide +kernel
theorem dX4_lookAtFlood_19 : decode cX4_lookAtFlood 19 = .ok (.ifCond .ne 52, 3) := by decide +kernel
theorem dX4_lookAtFlood_22 : decode cX4_lookAtFlood 22 = .ok (.iload_n 1, 1) := by decide +kernel
theorem dX4_lookAtFlood_23 : decode cX4_lookAtFlood 23 = .ok (.aload_n 0, 1) := by decide +kernel
theorem dX4_lookAtFlood_24 : decode cX4_lookAtFlood 24 = .ok (.getfield 20, 3) := by decide +kernel
theorem dX4_lookAtFlood_27 : decode cX4_lookAtFlood 27 = .ok (.getfield 107, 3) := by decide +kernel
theorem dX4_lookAtFlood_30 : decode cX4_lookAtFlood 30 = .ok (.if_icmp .le 41, 3) := by decide +kernel
theorem dX4_lookAtFlood_33 : decode cX4_lookAtFlood 33 = .ok (.aload_n 0, 1) := by decide +kernel
theorem dX4_lookAtFlood_34 : decode cX4_lookAtFlood 34 = .ok (.getfield 20, 3) := by decide +kernel
theorem dX4_lookAtFlood_37 : decode cX4_lookAtFlood 37 = .ok (.iconst 1, 1) := by decide +kernel
theorem dX4_lookAtFlood_38 : decode cX4_lookAtFlood 38 = .ok (.putfield 166, 3) := by decide +kernel
theorem dX4_lookAtFlood_41 : decode cX4_lookAtFlood 41 = .ok (.aload_n 0, 1) := by decide +kernel
theorem dX4_lookAtFlood_42 : decode cX4_lookAtFlood 42 = .ok (.getfield 20, 3) := by decide +kernel
theorem dX4_lookAtFlood_45 : decode cX4_lookAtFlood 45 = .ok (.aload_n 0, 1) := by decide +kernel
theorem dX4_lookAtFlood_46 : decode cX4_lookAtFlood 46 = .ok (.getfield 46, 3) := by decide +kernel
theorem dX4_lookAtFlood_49 : decode cX4_lookAtFlood 49 = .ok (.putfield 169, 3) := by decide +kernel
theorem dX4_lookAtFlood_52 : decode cX4_lookAtFlood 52 = .ok (.aload_n 0, 1) := by decide +kernel
theorem dX4_lookAtFlood_53 : decode cX4_lookAtFlood 53 = .ok (.getfield 27, 3) := by decide +kernel
theorem dX4_lookAtFlood_56 : decode cX4_lookAtFlood 56 = .ok (.aload_n 0, 1) := by decide +kernel
theorem dX4_lookAtFlood_57 : decode cX4_lookAtFlood 57 = .ok (.getfield 46, 3) := by decide +kernel
theorem dX4_lookAtFlood_60 : decode cX4_lookAtFlood 60 = .ok (.bipush 6, 2) := by decide +kernel
theorem dX4_lookAtFlood_62 : decode cX4_lookAtFlood 62 = .ok (.sipush (-20009), 3) := by decide +kernel
theorem dX4_lookAtFlood_65 : decode cX4_lookAtFlood 65 = .ok (.invokevirtual 145, 3) := by decide +kernel
theorem dX4_lookAtFlood_68 : decode cX4_lookAtFlood 68 = .ok (.goto 48, 3) := by decide +kernel
theorem dX4_lookAtFlood_71 : decode cX4_lookAtFlood 71 = .ok (.aload_n 0, 1) := by decide +kernel
theorem dX4_lookAtFlood_72 : decode cX4_lookAtFlood 72 = .ok (.getfield 20, 3) := by decide +kernel
theorem dX4_lookAtFlood_75 : decode cX4_lookAtFlood 75 = .ok (.getfield 166, 3) := by decide +kernel
theorem dX4_lookAtFlood_78 : decode cX4_lookAtFlood 78 = .ok (.ifCond .eq 38, 3) := by decide +kernel
theorem dX4_lookAtFlood_81 : decode cX4_lookAtFlood 81 = .ok (.iload_n 1, 1) := by decide +kernel
theorem dX4_lookAtFlood_82 : decode cX4_lookAtFlood 82 = .ok (.aload_n 0, 1) := by decide +kernel
theorem dX4_lookAtFlood_83 : decode cX4_lookAtFlood 83 = .ok (.getfield 20, 3) := by decide +kernel
theorem dX4_lookAtFlood_86 : decode cX4_lookAtFlood 86 = .ok (.getfield 110, 3) := by decide +kernel
theorem dX4_lookAtFlood_89 : decode cX4_lookAtFlood 89 = .ok (.if_icmp .gt 27, 3) := by decide +kernel
theorem dX4_lookAtFlood_92 : decode cX4_lookAtFlood 92 = .ok (.aload_n 0, 1) := by decide +kernel
theorem dX4_lookAtFlood_93 : decode cX4_lookAtFlood 93 = .ok (.getfield 20, 3) := by decide +kernel
theorem dX4_lookAtFlood_96 : decode cX4_lookAtFlood 96 = .ok (.iconst 0, 1) := by decide +kernel
theorem dX4_lookAtFlood_97 : decode cX4_lookAtFlood 97 = .ok (.putfield 166, 3) := by decide +kernel
theorem dX4_lookAtFlood_100 : decode cX4_lookAtFlood 100 = .ok (.aload_n 0, 1) := by decide +kernel
theorem dX4_lookAtFlood_101 : decode cX4_lookAtFlood 101 = .ok (.getfield 27, 3) := by decide +kernel
theorem dX4_lookAtFlood_104 : decode cX4_lookAtFlood 104 = .ok (.aload_n 0, 1) := by decide +kernel
theorem dX4_lookAtFlood_105 : decode cX4_lookAtFlood 105 = .ok (.getfield 46, 3) := by decide +kernel
theorem dX4_lookAtFlood_108 : decode cX4_lookAtFlood 108 = .ok (.bipush 7, 2) := by decide +kernel
theorem dX4_lookAtFlood_110 : decode cX4_lookAtFlood 110 = .ok (.sipush (-20009), 3) := by decide +kernel
theorem dX4_lookAtFlood_113 : decode cX4_lookAtFlood 113 = .ok (.invokevirtual 145, 3) := by decide +kernel
theorem dX4_lookAtFlood_116 : decode cX4_lookAtFlood 116 = .ok (.return_, 1) := by decide +kernel
theorem dX4_acknowledge_0 : decode cX4_acknowledge 0 = .ok (.aload_n 0, 1) := by decide +kernel
theorem dX4_acknowledge_1 : decode cX4_acknowledge 1 = .ok (.iload_n 1, 1) := by decide +kernel
theorem dX4_acknowledge_2 : decode cX4_acknowledge 2 = .ok (.invokevirtual 69, 3) := by decide +kernel
theorem dX4_acknowledge_5 : decode cX4_acknowledge 5 = .ok (.ifCond .ne 7, 3) := by decide +kernel
theorem dX4_acknowledge_8 : decode cX4_acknowledge 8 = .ok (.sipush (-20001), 3) := by decide +kernel
theorem dX4_acknowledge_11 : decode cX4_acknowledge 11 = .ok (.ireturn, 1) := by decide +kernel
theorem dX4_acknowledge_12 : decode cX4_acknowledge 12 = .ok (.aload_n 0, 1) := by decide +kernel
theorem dX4_acknowledge_13 : decode cX4_acknowledge 13 = .ok (.getfield 11, 3) := by decide +kernel
theorem dX4_acknowledge_16 : decode cX4_acknowledge 16 = .ok (.iload_n 1, 1) := by decide +kernel
theorem dX4_acknowledge_17 : decode cX4_acknowledge 17 = .ok (.aaload, 1) := by decide +kernel
theorem dX4_acknowledge_18 : decode cX4_acknowledge 18 = .ok (.astore_n 2, 1) := by decide +kernel
theorem dX4_acknowledge_19 : decode cX4_acknowledge 19 = .ok (.aload_n 2, 1) := by decide +kernel
theorem dX4_acknowledge_20 : decode cX4_acknowledge 20 = .ok (.getfield 152, 3) := by decide +kernel
theorem dX4_acknowledge_23 : decode cX4_acknowledge 23 = .ok (.ifCond .eq 7, 3) := by decide +kernel
theorem dX4_acknowledge_26 : decode cX4_acknowledge 26 = .ok (.sipush (-20002), 3) := by decide +kernel
theorem dX4_acknowledge_29 : decode cX4_acknowledge 29 = .ok (.ireturn, 1) := by decide +kernel
theorem dX4_acknowledge_30 : decode cX4_acknowledge 30 = .ok (.aload_n 2, 1) := by decide +kernel
theorem dX4_acknowledge_31 : decode cX4_acknowledge 31 = .ok (.iconst 1, 1) := by decide +kernel
theorem dX4_acknowledge_32 : decode cX4_acknowledge 32 = .ok (.putfield 152, 3) := by decide +kernel
theorem dX4_acknowledge_35 : decode cX4_acknowledge 35 = .ok (.aload_n 0, 1) := by decide +kernel
theorem dX4_acknowledge_36 : decode cX4_acknowledge 36 = .ok (.getfield 46, 3) := by decide +kernel
theorem dX4_acknowledge_39 : decode cX4_acknowledge 39 = .ok (.aload_n 2, 1) := by decide +kernel
theorem dX4_acknowledge_40 : decode cX4_acknowledge 40 = .ok (.getfield 155, 3) := by decide +kernel
theorem dX4_acknowledge_43 : decode cX4_acknowledge 43 = .ok (.isub, 1) := by decide +kernel
theorem dX4_acknowledge_44 : decode cX4_acknowledge 44 = .ok (.istore_n 3, 1) := by decide +kernel
theorem dX4_acknowledge_45 : decode cX4_acknowledge 45 = .ok (.aload_n 0, 1) := by decide +kernel
theorem dX4_acknowledge_46 : decode cX4_acknowledge 46 = .ok (.dup, 1) := by decide +kernel
theorem dX4_acknowledge_47 : decode cX4_acknowledge 47 = .ok (.getfield 55, 3) := by decide +kernel
theorem dX4_acknowledge_50 : decode cX4_acknowledge 50 = .ok (.iload_n 3, 1) := by decide +kernel
theorem dX4_acknowledge_51 : decode cX4_acknowledge 51 = .ok (.iadd, 1) := by decide +kernel
theorem dX4_acknowledge_52 : decode cX4_acknowledge 52 = .ok (.putfield 55, 3) := by decide +kernel
theorem dX4_acknowledge_55 : decode cX4_acknowledge 55 = .ok (.aload_n 0, 1) := by decide +kernel
theorem dX4_acknowledge_56 : decode cX4_acknowledge 56 = .ok (.dup, 1) := by decide +kernel
theorem dX4_acknowledge_57 : decode cX4_acknowledge 57 = .ok (.getfield 58, 3) := by decide +kernel
theorem dX4_acknowledge_60 : decode cX4_acknowledge 60 = .ok (.iconst 1, 1) := by decide +kernel
theorem dX4_acknowledge_61 : decode cX4_acknowledge 61 = .ok (.iadd, 1) := by decide +kernel
theorem dX4_acknowledge_62 : decode cX4_acknowledge 62 = .ok (.putfield 58, 3) := by decide +kernel
theorem dX4_acknowledge_65 : decode cX4_acknowledge 65 = .ok (.aload_n 0, 1) := by decide +kernel
theorem dX4_acknowledge_66 : decode cX4_acknowledge 66 = .ok (.getfield 27, 3) := by decide +kernel
theorem dX4_acknowledge_69 : decode cX4_acknowledge 69 = .ok (.aload_n 0, 1) := by decide +kernel
theorem dX4_acknowledge_70 : decode cX4_acknowledge 70 = .ok (.getfield 46, 3) := by decide +kernel
theorem dX4_acknowledge_73 : decode cX4_acknowledge 73 = .ok (.iconst 3, 1) := by decide +kernel
theorem dX4_acknowledge_74 : decode cX4_acknowledge 74 = .ok (.iload_n 1, 1) := by decide +kernel
theorem dX4_acknowledge_75 : decode cX4_acknowledge 75 = .ok (.invokevirtual 145, 3) := by decide +kernel
theorem dX4_acknowledge_78 : decode cX4_acknowledge 78 = .ok (.iload_n 3, 1) := by decide +kernel
theorem dX4_acknowledge_79 : decode cX4_acknowledge 79 = .ok (.ireturn, 1) := by decide +kernel
theorem dX4_putOnShelf_0 : decode cX4_putOnShelf 0 = .ok (.aload_n 0, 1) := by decide +kernel
theorem dX4_putOnShelf_1 : decode cX4_putOnShelf 1 = .ok (.iload_n 1, 1) := by decide +kernel
theorem dX4_putOnShelf_2 : decode cX4_putOnShelf 2 = .ok (.invokevirtual 69, 3) := by decide +kernel
theorem dX4_putOnShelf_5 : decode cX4_putOnShelf 5 = .ok (.ifCond .eq 14, 3) := by decide +kernel
theorem dX4_putOnShelf_8 : decode cX4_putOnShelf 8 = .ok (.iload_n 2, 1) := by decide +kernel
theorem dX4_putOnShelf_9 : decode cX4_putOnShelf 9 = .ok (.iconst 1, 1) := by decide +kernel
theorem dX4_putOnShelf_10 : decode cX4_putOnShelf 10 = .ok (.sipush 1000, 3) := by decide +kernel
theorem dX4_putOnShelf_13 : decode cX4_putOnShelf 13 = .ok (.invokestatic 61, 3) := by decide +kernel
theorem dX4_putOnShelf_16 : decode cX4_putOnShelf 16 = .ok (.ifCond .ne 7, 3) := by decide +kernel
theorem dX4_putOnShelf_19 : decode cX4_putOnShelf 19 = .ok (.sipush (-20001), 3) := by decide +kernel
theorem dX4_putOnShelf_22 : decode cX4_putOnShelf 22 = .ok (.ireturn, 1) := by decide +kernel
theorem dX4_putOnShelf_23 : decode cX4_putOnShelf 23 = .ok (.aload_n 0, 1) := by decide +kernel
theorem dX4_putOnShelf_24 : decode cX4_putOnShelf 24 = .ok (.getfield 11, 3) := by decide +kernel
theorem dX4_putOnShelf_27 : decode cX4_putOnShelf 27 = .ok (.iload_n 1, 1) := by decide +kernel
theorem dX4_putOnShelf_28 : decode cX4_putOnShelf 28 = .ok (.aaload, 1) := by decide +kernel
theorem dX4_putOnShelf_29 : decode cX4_putOnShelf 29 = .ok (.invokevirtual 83, 3) := by decide +kernel
theorem dX4_putOnShelf_32 : decode cX4_putOnShelf 32 = .ok (.ifCond .eq 7, 3) := by decide +kernel
theorem dX4_putOnShelf_35 : decode cX4_putOnShelf 35 = .ok (.sipush (-20002), 3) := by decide +kernel
theorem dX4_putOnShelf_38 : decode cX4_putOnShelf 38 = .ok (.ireturn, 1) := by decide +kernel
theorem dX4_putOnShelf_39 : decode cX4_putOnShelf 39 = .ok (.aload_n 0, 1) := by decide +kernel
theorem dX4_putOnShelf_40 : decode cX4_putOnShelf 40 = .ok (.getfield 11, 3) := by decide +kernel
theorem dX4_putOnShelf_43 : decode cX4_putOnShelf 43 = .ok (.iload_n 1, 1) := by decide +kernel
theorem dX4_putOnShelf_44 : decode cX4_putOnShelf 44 = .ok (.aaload, 1) := by decide +kernel
theorem dX4_putOnShelf_45 : decode cX4_putOnShelf 45 = .ok (.aload_n 0, 1) := by decide +kernel
theorem dX4_putOnShelf_46 : decode cX4_putOnShelf 46 = .ok (.getfield 46, 3) := by decide +kernel
theorem dX4_putOnShelf_49 : decode cX4_putOnShelf 49 = .ok (.iload_n 2, 1) := by decide +kernel
theorem dX4_putOnShelf_50 : decode cX4_putOnShelf 50 = .ok (.iadd, 1) := by decide +kernel
theorem dX4_putOnShelf_51 : decode cX4_putOnShelf 51 = .ok (.putfield 122, 3) := by decide +kernel
theorem dX4_putOnShelf_54 : decode cX4_putOnShelf 54 = .ok (.aload_n 0, 1) := by decide +kernel
theorem dX4_putOnShelf_55 : decode cX4_putOnShelf 55 = .ok (.getfield 27, 3) := by decide +kernel
theorem dX4_putOnShelf_58 : decode cX4_putOnShelf 58 = .ok (.aload_n 0, 1) := by decide +kernel
theorem dX4_putOnShelf_59 : decode cX4_putOnShelf 59 = .ok (.getfield 46, 3) := by decide +kernel
theorem dX4_putOnShelf_62 : decode cX4_putOnShelf 62 = .ok (.iconst 4, 1) := by decide +kernel
theorem dX4_putOnShelf_63 : decode cX4_putOnShelf 63 = .ok (.iload_n 1, 1) := by decide +kernel
theorem dX4_putOnShelf_64 : decode cX4_putOnShelf 64 = .ok (.invokevirtual 145, 3) := by decide +kernel
theorem dX4_putOnShelf_67 : decode cX4_putOnShelf 67 = .ok (.aload_n 0, 1) := by decide +kernel
theorem dX4_putOnShelf_68 : decode cX4_putOnShelf 68 = .ok (.getfield 46, 3) := by decide +kernel
theorem dX4_putOnShelf_71 : decode cX4_putOnShelf 71 = .ok (.iload_n 2, 1) := by decide +kernel
theorem dX4_putOnShelf_72 : decode cX4_putOnShelf 72 = .ok (.iadd, 1) := by decide +kernel
theorem dX4_putOnShelf_73 : decode cX4_putOnShelf 73 = .ok (.ireturn, 1) := by decide +kernel
theorem dX4_takeFromShelf_0 : decode cX4_takeFromShelf 0 = .ok (.aload_n 0, 1) := by decide +kernel
theorem dX4_takeFromShelf_1 : decode cX4_takeFromShelf 1 = .ok (.iload_n 1, 1) := by decide +kernel
theorem dX4_takeFromShelf_2 : decode cX4_takeFromShelf 2 = .ok (.invokevirtual 69, 3) := by decide +kernel
theorem dX4_takeFromShelf_5 : decode cX4_takeFromShelf 5 = .ok (.ifCond .ne 7, 3) := by decide +kernel
theorem dX4_takeFromShelf_8 : decode cX4_takeFromShelf 8 = .ok (.sipush (-20001), 3) := by decide +kernel
theorem dX4_takeFromShelf_11 : decode cX4_takeFromShelf 11 = .ok (.ireturn, 1) := by decide +kernel
theorem dX4_takeFromShelf_12 : decode cX4_takeFromShelf 12 = .ok (.aload_n 0, 1) := by decide +kernel
theorem dX4_takeFromShelf_13 : decode cX4_takeFromShelf 13 = .ok (.getfield 11, 3) := by decide +kernel
theorem dX4_takeFromShelf_16 : decode cX4_takeFromShelf 16 = .ok (.iload_n 1, 1) := by decide +kernel
theorem dX4_takeFromShelf_17 : decode cX4_takeFromShelf 17 = .ok (.aaload, 1) := by decide +kernel
theorem dX4_takeFromShelf_18 : decode cX4_takeFromShelf 18 = .ok (.invokevirtual 87, 3) := by decide +kernel
theorem dX4_takeFromShelf_21 : decode cX4_takeFromShelf 21 = .ok (.ifCond .ne 7, 3) := by decide +kernel
theorem dX4_takeFromShelf_24 : decode cX4_takeFromShelf 24 = .ok (.sipush (-20002), 3) := by decide +kernel
theorem dX4_takeFromShelf_27 : decode cX4_takeFromShelf 27 = .ok (.ireturn, 1) := by decide +kernel
theorem dX4_takeFromShelf_28 : decode cX4_takeFromShelf 28 = .ok (.aload_n 0, 1) := by decide +kernel
theorem dX4_takeFromShelf_29 : decode cX4_takeFromShelf 29 = .ok (.getfield 11, 3) := by decide +kernel
theorem dX4_takeFromShelf_32 : decode cX4_takeFromShelf 32 = .ok (.iload_n 1, 1) := by decide +kernel
theorem dX4_takeFromShelf_33 : decode cX4_takeFromShelf 33 = .ok (.aaload, 1) := by decide +kernel
theorem dX4_takeFromShelf_34 : decode cX4_takeFromShelf 34 = .ok (.getfield 122, 3) := by decide +kernel
theorem dX4_takeFromShelf_37 : decode cX4_takeFromShelf 37 = .ok (.aload_n 0, 1) := by decide +kernel
theorem dX4_takeFromShelf_38 : decode cX4_takeFromShelf 38 = .ok (.getfield 46, 3) := by decide +kernel
theorem dX4_takeFromShelf_41 : decode cX4_takeFromShelf 41 = .ok (.isub, 1) := by decide +kernel
theorem dX4_takeFromShelf_42 : decode cX4_takeFromShelf 42 = .ok (.istore_n 2, 1) := by decide +kernel
theorem dX4_takeFromShelf_43 : decode cX4_takeFromShelf 43 = .ok (.aload_n 0, 1) := by decide +kernel
theorem dX4_takeFromShelf_44 : decode cX4_takeFromShelf 44 = .ok (.iload_n 1, 1) := by decide +kernel
theorem dX4_takeFromShelf_45 : decode cX4_takeFromShelf 45 = .ok (.invokevirtual 90, 3) := by decide +kernel
theorem dX4_takeFromShelf_48 : decode cX4_takeFromShelf 48 = .ok (.iload_n 2, 1) := by decide +kernel
theorem dX4_takeFromShelf_49 : decode cX4_takeFromShelf 49 = .ok (.ireturn, 1) := by decide +kernel
theorem dX4_pointNumber_0 : decode cX4_pointNumber 0 = .ok (.iload_n 2, 1) := by decide +kernel
theorem dX4_pointNumber_1 : decode cX4_pointNumber 1 = .ok (.bipush 15, 2) := by decide +kernel
theorem dX4_pointNumber_3 : decode cX4_pointNumber 3 = .ok (.if_icmp .ne 11, 3) := by decide +kernel
theorem dX4_pointNumber_6 : decode cX4_pointNumber 6 = .ok (.aload_n 0, 1) := by decide +kernel
theorem dX4_pointNumber_7 : decode cX4_pointNumber 7 = .ok (.iload_n 1, 1) := by decide +kernel
theorem dX4_pointNumber_8 : decode cX4_pointNumber 8 = .ok (.invokevirtual 172, 3) := by decide +kernel
theorem dX4_pointNumber_11 : decode cX4_pointNumber 11 = .ok (.goto 13, 3) := by decide +kernel
theorem dX4_pointNumber_14 : decode cX4_pointNumber 14 = .ok (.aload_n 0, 1) := by decide +kernel
theorem dX4_pointNumber_15 : decode cX4_pointNumber 15 = .ok (.getfield 11, 3) := by decide +kernel
theorem dX4_pointNumber_18 : decode cX4_pointNumber 18 = .ok (.iload_n 1, 1) := by decide +kernel
theorem dX4_pointNumber_19 : decode cX4_pointNumber 19 = .ok (.aaload, 1) := by decide +kernel
theorem dX4_pointNumber_20 : decode cX4_pointNumber 20 = .ok (.iload_n 2, 1) := by decide +kernel
theorem dX4_pointNumber_21 : decode cX4_pointNumber 21 = .ok (.invokevirtual 175, 3) := by decide +kernel
theorem dX4_pointNumber_24 : decode cX4_pointNumber 24 = .ok (.ireturn, 1) := by decide +kernel
theorem dX4_whyHidden_0 : decode cX4_whyHidden 0 = .ok (.aload_n 0, 1) := by decide +kernel
theorem dX4_whyHidden_1 : decode cX4_whyHidden 1 = .ok (.getfield 11, 3) := by decide +kernel
theorem dX4_whyHidden_4 : decode cX4_whyHidden 4 = .ok (.iload_n 1, 1) := by decide +kernel
theorem dX4_whyHidden_5 : decode cX4_whyHidden 5 = .ok (.aaload, 1) := by decide +kernel
theorem dX4_whyHidden_6 : decode cX4_whyHidden 6 = .ok (.astore_n 2, 1) := by decide +kernel
theorem dX4_whyHidden_7 : decode cX4_whyHidden 7 = .ok (.aload_n 2, 1) := by decide +kernel
theorem dX4_whyHidden_8 : decode cX4_whyHidden 8 = .ok (.invokevirtual 178, 3) := by decide +kernel
theorem dX4_whyHidden_11 : decode cX4_whyHidden 11 = .ok (.ifCond .ne 7, 3) := by decide +kernel
theorem dX4_whyHidden_14 : decode cX4_whyHidden 14 = .ok (.sipush (-20009), 3) := by decide +kernel
theorem dX4_whyHidden_17 : decode cX4_whyHidden 17 = .ok (.ireturn, 1) := by decide +kernel
theorem dX4_whyHidden_18 : decode cX4_whyHidden 18 = .ok (.aload_n 2, 1) := by decide +kernel
theorem dX4_whyHidden_19 : decode cX4_whyHidden 19 = .ok (.invokevirtual 87, 3) := by decide +kernel
theorem dX4_whyHidden_22 : decode cX4_whyHidden 22 = .ok (.ifCond .eq 5, 3) := by decide +kernel
theorem dX4_whyHidden_25 : decode cX4_whyHidden 25 = .ok (.iconst 1, 1) := by decide +kernel
theorem dX4_whyHidden_26 : decode cX4_whyHidden 26 = .ok (.ireturn, 1) := by decide +kernel
theorem dX4_whyHidden_27 : decode cX4_whyHidden 27 = .ok (.aload_n 2, 1) := by decide +kernel
theorem dX4_whyHidden_28 : decode cX4_whyHidden 28 = .ok (.invokevirtual 83, 3) := by decide +kernel
theorem dX4_whyHidden_31 : decode cX4_whyHidden 31 = .ok (.ifCond .eq 5, 3) := by decide +kernel
theorem dX4_whyHidden_34 : decode cX4_whyHidden 34 = .ok (.iconst 0, 1) := by decide +kernel
theorem dX4_whyHidden_35 : decode cX4_whyHidden 35 = .ok (.ireturn, 1) := by decide +kernel
theorem dX4_whyHidden_36 : decode cX4_whyHidden 36 = .ok (.aload_n 2, 1) := by decide +kernel
theorem dX4_whyHidden_37 : decode cX4_whyHidden 37 = .ok (.getfield 80, 3) := by decide +kernel
theorem dX4_whyHidden_40 : decode cX4_whyHidden 40 = .ok (.bipush 6, 2) := by decide +kernel
theorem dX4_whyHidden_42 : decode cX4_whyHidden 42 = .ok (.iaload, 1) := by decide +kernel
theorem dX4_whyHidden_43 : decode cX4_whyHidden 43 = .ok (.aload_n 0, 1) := by decide +kernel
theorem dX4_whyHidden_44 : decode cX4_whyHidden 44 = .ok (.getfield 49, 3) := by decide +kernel
theorem dX4_whyHidden_47 : decode cX4_whyHidden 47 = .ok (.ishr, 1) := by decide +kernel
theorem dX4_whyHidden_48 : decode cX4_whyHidden 48 = .ok (.iconst 1, 1) := by decide +kernel
theorem dX4_whyHidden_49 : decode cX4_whyHidden 49 = .ok (.iand, 1) := by decide +kernel
theorem dX4_whyHidden_50 : decode cX4_whyHidden 50 = .ok (.iconst 1, 1) := by decide +kernel
theorem dX4_whyHidden_51 : decode cX4_whyHidden 51 = .ok (.if_icmp .ne 5, 3) := by decide +kernel
theorem dX4_whyHidden_54 : decode cX4_whyHidden 54 = .ok (.iconst 2, 1) := by decide +kernel
theorem dX4_whyHidden_55 : decode cX4_whyHidden 55 = .ok (.ireturn, 1) := by decide +kernel
theorem dX4_whyHidden_56 : decode cX4_whyHidden 56 = .ok (.aload_n 0, 1) := by decide +kernel
theorem dX4_whyHidden_57 : decode cX4_whyHidden 57 = .ok (.aload_n 2, 1) := by decide +kernel
theorem dX4_whyHidden_58 : decode cX4_whyHidden 58 = .ok (.invokevirtual 181, 3) := by decide +kernel
theorem dX4_whyHidden_61 : decode cX4_whyHidden 61 = .ok (.ifCond .eq 5, 3) := by decide +kernel
theorem dX4_whyHidden_64 : decode cX4_whyHidden 64 = .ok (.iconst 3, 1) := by decide +kernel
theorem dX4_whyHidden_65 : decode cX4_whyHidden 65 = .ok (.ireturn, 1) := by decide +kernel
theorem dX4_whyHidden_66 : decode cX4_whyHidden 66 = .ok (.aload_n 0, 1) := by decide +kernel
theorem dX4_whyHidden_67 : decode cX4_whyHidden 67 = .ok (.aload_n 2, 1) := by decide +kernel
theorem dX4_whyHidden_68 : decode cX4_whyHidden 68 = .ok (.invokevirtual 185, 3) := by decide +kernel
theorem dX4_whyHidden_71 : decode cX4_whyHidden 71 = .ok (.ifCond .eq 7, 3) := by decide +kernel
theorem dX4_whyHidden_74 : decode cX4_whyHidden 74 = .ok (.iconst 4, 1) := by decide +kernel
theorem dX4_whyHidden_75 : decode cX4_whyHidden 75 = .ok (.goto 4, 3) := by decide +kernel
theorem dX4_whyHidden_78 : decode cX4_whyHidden 78 = .ok (.iconst 0, 1) := by decide +kernel
theorem dX4_whyHidden_79 : decode cX4_whyHidden 79 = .ok (.ireturn, 1) := by decide +kernel
theorem dX4_hasRootInAlarm_0 : decode cX4_hasRootInAlarm 0 = .ok (.aload_n 1, 1) := by decide +kernel
theorem dX4_hasRootInAlarm_1 : decode cX4_hasRootInAlarm 1 = .ok (.getfield 98, 3) := by decide +kernel
theorem dX4_hasRootInAlarm_4 : decode cX4_hasRootInAlarm 4 = .ok (.istore_n 2, 1) := by decide +kernel
theorem dX4_hasRootInAlarm_5 : decode cX4_hasRootInAlarm 5 = .ok (.iconst 0, 1) := by decide +kernel
theorem dX4_hasRootInAlarm_6 : decode cX4_hasRootInAlarm 6 = .ok (.istore_n 3, 1) := by decide +kernel
theorem dX4_hasRootInAlarm_7 : decode cX4_hasRootInAlarm 7 = .ok (.iload_n 3, 1) := by decide +kernel
theorem dX4_hasRootInAlarm_8 : decode cX4_hasRootInAlarm 8 = .ok (.bipush 16, 2) := by decide +kernel
theorem dX4_hasRootInAlarm_10 : decode cX4_hasRootInAlarm 10 = .ok (.if_icmp .ge 41, 3) := by decide +kernel
theorem dX4_hasRootInAlarm_13 : decode cX4_hasRootInAlarm 13 = .ok (.aload_n 0, 1) := by decide +kernel
theorem dX4_hasRootInAlarm_14 : decode cX4_hasRootInAlarm 14 = .ok (.iload_n 2, 1) := by decide +kernel
theorem dX4_hasRootInAlarm_15 : decode cX4_hasRootInAlarm 15 = .ok (.invokevirtual 69, 3) := by decide +kernel
theorem dX4_hasRootInAlarm_18 : decode cX4_hasRootInAlarm 18 = .ok (.ifCond .eq 33, 3) := by decide +kernel
theorem dX4_hasRootInAlarm_21 : decode cX4_hasRootInAlarm 21 = .ok (.aload_n 0, 1) := by decide +kernel
theorem dX4_hasRootInAlarm_22 : decode cX4_hasRootInAlarm 22 = .ok (.getfield 11, 3) := by decide +kernel
theorem dX4_hasRootInAlarm_25 : decode cX4_hasRootInAlarm 25 = .ok (.iload_n 2, 1) := by decide +kernel
theorem dX4_hasRootInAlarm_26 : decode cX4_hasRootInAlarm 26 = .ok (.aaload, 1) := by decide +kernel
theorem dX4_hasRootInAlarm_27 : decode cX4_hasRootInAlarm 27 = .ok (.getfield 137, 3) := by decide +kernel
theorem dX4_hasRootInAlarm_30 : decode cX4_hasRootInAlarm 30 = .ok (.ifCond .eq 5, 3) := by decide +kernel
theorem dX4_hasRootInAlarm_33 : decode cX4_hasRootInAlarm 33 = .ok (.iconst 1, 1) := by decide +kernel
theorem dX4_hasRootInAlarm_34 : decode cX4_hasRootInAlarm 34 = .ok (.ireturn, 1) := by decide +kernel
theorem dX4_hasRootInAlarm_35 : decode cX4_hasRootInAlarm 35 = .ok (.aload_n 0, 1) := by decide +kernel
theorem dX4_hasRootInAlarm_36 : decode cX4_hasRootInAlarm 36 = .ok (.getfield 11, 3) := by decide +kernel
theorem dX4_hasRootInAlarm_39 : decode cX4_hasRootInAlarm 39 = .ok (.iload_n 2, 1) := by decide +kernel
theorem dX4_hasRootInAlarm_40 : decode cX4_hasRootInAlarm 40 = .ok (.aaload, 1) := by decide +kernel
theorem dX4_hasRootInAlarm_41 : decode cX4_hasRootInAlarm 41 = .ok (.getfield 98, 3) := by decide +kernel
theorem dX4_hasRootInAlarm_44 : decode cX4_hasRootInAlarm 44 = .ok (.istore_n 2, 1) := by decide +kernel
theorem dX4_hasRootInAlarm_45 : decode cX4_hasRootInAlarm 45 = .ok (.iinc 3 1, 3) := by decide +kernel
theorem dX4_hasRootInAlarm_48 : decode cX4_hasRootInAlarm 48 = .ok (.goto (-41), 3) := by decide +kernel
theorem dX4_hasRootInAlarm_51 : decode cX4_hasRootInAlarm 51 = .ok (.iconst 0, 1) := by decide +kernel
theorem dX4_hasRootInAlarm_52 : decode cX4_hasRootInAlarm 52 = .ok (.ireturn, 1) := by decide +kernel
theorem dX4_isFlooded_0 : decode cX4_isFlooded 0 = .ok (.aload_n 0, 1) := by decide +kernel
theorem dX4_isFlooded_1 : decode cX4_isFlooded 1 = .ok (.getfield 20, 3) := by decide +kernel
theorem dX4_isFlooded_4 : decode cX4_isFlooded 4 = .ok (.getfield 166, 3) := by decide +kernel
theorem dX4_isFlooded_7 : decode cX4_isFlooded 7 = .ok (.ifCond .eq 31, 3) := by decide +kernel
theorem dX4_isFlooded_10 : decode cX4_isFlooded 10 = .ok (.aload_n 1, 1) := by decide +kernel
theorem dX4_isFlooded_11 : decode cX4_isFlooded 11 = .ok (.getfield 155, 3) := by decide +kernel
theorem dX4_isFlooded_14 : decode cX4_isFlooded 14 = .ok (.aload_n 0, 1) := by decide +kernel
theorem dX4_isFlooded_15 : decode cX4_isFlooded 15 = .ok (.getfield 20, 3) := by decide +kernel
theorem dX4_isFlooded_18 : decode cX4_isFlooded 18 = .ok (.getfield 169, 3) := by decide +kernel
theorem dX4_isFlooded_21 : decode cX4_isFlooded 21 = .ok (.if_icmp .lt 17, 3) := by decide +kernel
theorem dX4_isFlooded_24 : decode cX4_isFlooded 24 = .ok (.aload_n 1, 1) := by decide +kernel
theorem dX4_isFlooded_25 : decode cX4_isFlooded 25 = .ok (.getfield 80, 3) := by decide +kernel
theorem dX4_isFlooded_28 : decode cX4_isFlooded 28 = .ok (.iconst 5, 1) := by decide +kernel
theorem dX4_isFlooded_29 : decode cX4_isFlooded 29 = .ok (.iaload, 1) := by decide +kernel
theorem dX4_isFlooded_30 : decode cX4_isFlooded 30 = .ok (.iconst 3, 1) := by decide +kernel
theorem dX4_isFlooded_31 : decode cX4_isFlooded 31 = .ok (.if_icmp .lt 7, 3) := by decide +kernel
theorem dX4_isFlooded_34 : decode cX4_isFlooded 34 = .ok (.iconst 1, 1) := by decide +kernel
theorem dX4_isFlooded_35 : decode cX4_isFlooded 35 = .ok (.goto 4, 3) := by decide +kernel
theorem dX4_isFlooded_38 : decode cX4_isFlooded 38 = .ok (.iconst 0, 1) := by decide +kernel
theorem dX4_isFlooded_39 : decode cX4_isFlooded 39 = .ok (.ireturn, 1) := by decide +kernel
theorem dX4_fillList_0 : decode cX4_fillList 0 = .ok (.iconst 0, 1) := by decide +kernel
theorem dX4_fillList_1 : decode cX4_fillList 1 = .ok (.istore_n 2, 1) := by decide +kernel
theorem dX4_fillList_2 : decode cX4_fillList 2 = .ok (.iconst 0, 1) := by decide +kernel
theorem dX4_fillList_3 : decode cX4_fillList 3 = .ok (.istore_n 3, 1) := by decide +kernel
theorem dX4_fillList_4 : decode cX4_fillList 4 = .ok (.iload_n 3, 1) := by decide +kernel
theorem dX4_fillList_5 : decode cX4_fillList 5 = .ok (.aload_n 0, 1) := by decide +kernel
theorem dX4_fillList_6 : decode cX4_fillList 6 = .ok (.getfield 32, 3) := by decide +kernel
theorem dX4_fillList_9 : decode cX4_fillList 9 = .ok (.if_icmp .ge 63, 3) := by decide +kernel
theorem dX4_fillList_12 : decode cX4_fillList 12 = .ok (.aload_n 0, 1) := by decide +kernel
theorem dX4_fillList_13 : decode cX4_fillList 13 = .ok (.iload_n 3, 1) := by decide +kernel
theorem dX4_fillList_14 : decode cX4_fillList 14 = .ok (.invokevirtual 172, 3) := by decide +kernel
theorem dX4_fillList_17 : decode cX4_fillList 17 = .ok (.ifCond .ne 49, 3) := by decide +kernel
theorem dX4_fillList_20 : decode cX4_fillList 20 = .ok (.iload_n 2, 1) := by decide +kernel
theorem dX4_fillList_21 : decode cX4_fillList 21 = .ok (.istore 4, 2) := by decide +kernel
theorem dX4_fillList_23 : decode cX4_fillList 23 = .ok (.iload 4, 2) := by decide +kernel
theorem dX4_fillList_25 : decode cX4_fillList 25 = .ok (.ifCond .le 33, 3) := by decide +kernel
theorem dX4_fillList_28 : decode cX4_fillList 28 = .ok (.aload_n 0, 1) := by decide +kernel
theorem dX4_fillList_29 : decode cX4_fillList 29 = .ok (.iload_n 3, 1) := by decide +kernel
theorem dX4_fillList_30 : decode cX4_fillList 30 = .ok (.aload_n 1, 1) := by decide +kernel
theorem dX4_fillList_31 : decode cX4_fillList 31 = .ok (.iload 4, 2) := by decide +kernel
theorem dX4_fillList_33 : decode cX4_fillList 33 = .ok (.iconst 1, 1) := by decide +kernel
theorem dX4_fillList_34 : decode cX4_fillList 34 = .ok (.isub, 1) := by decide +kernel
theorem dX4_fillList_35 : decode cX4_fillList 35 = .ok (.iaload, 1) := by decide +kernel
theorem dX4_fillList_36 : decode cX4_fillList 36 = .ok (.invokevirtual 188, 3) := by decide +kernel
theorem dX4_fillList_39 : decode cX4_fillList 39 = .ok (.ifCond .eq 19, 3) := by decide +kernel
theorem dX4_fillList_42 : decode cX4_fillList 42 = .ok (.aload_n 1, 1) := by decide +kernel
theorem dX4_fillList_43 : decode cX4_fillList 43 = .ok (.iload 4, 2) := by decide +kernel
theorem dX4_fillList_45 : decode cX4_fillList 45 = .ok (.aload_n 1, 1) := by decide +kernel
theorem dX4_fillList_46 : decode cX4_fillList 46 = .ok (.iload 4, 2) := by decide +kernel
theorem dX4_fillList_48 : decode cX4_fillList 48 = .ok (.iconst 1, 1) := by decide +kernel
theorem dX4_fillList_49 : decode cX4_fillList 49 = .ok (.isub, 1) := by decide +kernel
theorem dX4_fillList_50 : decode cX4_fillList 50 = .ok (.iaload, 1) := by decide +kernel
theorem dX4_fillList_51 : decode cX4_fillList 51 = .ok (.iastore, 1) := by decide +kernel
theorem dX4_fillList_52 : decode cX4_fillList 52 = .ok (.iinc 4 (-1), 3) := by decide +kernel
theorem dX4_fillList_55 : decode cX4_fillList 55 = .ok (.goto (-32), 3) := by decide +kernel
theorem dX4_fillList_58 : decode cX4_fillList 58 = .ok (.aload_n 1, 1) := by decide +kernel
theorem dX4_fillList_59 : decode cX4_fillList 59 = .ok (.iload 4, 2) := by decide +kernel
theorem dX4_fillList_61 : decode cX4_fillList 61 = .ok (.iload_n 3, 1) := by decide +kernel
theorem dX4_fillList_62 : decode cX4_fillList 62 = .ok (.iastore, 1) := by decide +kernel
theorem dX4_fillList_63 : decode cX4_fillList 63 = .ok (.iinc 2 1, 3) := by decide +kernel
theorem dX4_fillList_66 : decode cX4_fillList 66 = .ok (.iinc 3 1, 3) := by decide +kernel
theorem dX4_fillList_69 : decode cX4_fillList 69 = .ok (.goto (-65), 3) := by decide +kernel
theorem dX4_fillList_72 : decode cX4_fillList 72 = .ok (.iload_n 2, 1) := by decide +kernel
theorem dX4_fillList_73 : decode cX4_fillList 73 = .ok (.ireturn, 1) := by decide +kernel
theorem dX4_comesBefore_0 : decode cX4_comesBefore 0 = .ok (.aload_n 0, 1) := by decide +kernel
theorem dX4_comesBefore_1 : decode cX4_comesBefore 1 = .ok (.getfield 11, 3) := by decide +kernel
theorem dX4_comesBefore_4 : decode cX4_comesBefore 4 = .ok (.iload_n 1, 1) := by decide +kernel
theorem dX4_comesBefore_5 : decode cX4_comesBefore 5 = .ok (.aaload, 1) := by decide +kernel
theorem dX4_comesBefore_6 : decode cX4_comesBefore 6 = .ok (.astore_n 3, 1) := by decide +kernel
theorem dX4_comesBefore_7 : decode cX4_comesBefore 7 = .ok (.aload_n 0, 1) := by decide +kernel
theorem dX4_comesBefore_8 : decode cX4_comesBefore 8 = .ok (.getfield 11, 3) := by decide +kernel
theorem dX4_comesBefore_11 : decode cX4_comesBefore 11 = .ok (.iload_n 2, 1) := by decide +kernel
theorem dX4_comesBefore_12 : decode cX4_comesBefore 12 = .ok (.aaload, 1) := by decide +kernel
theorem dX4_comesBefore_13 : decode cX4_comesBefore 13 = .ok (.astore 4, 2) := by decide +kernel
theorem dX4_comesBefore_15 : decode cX4_comesBefore 15 = .ok (.aload_n 3, 1) := by decide +kernel
theorem dX4_comesBefore_16 : decode cX4_comesBefore 16 = .ok (.getfield 80, 3) := by decide +kernel
theorem dX4_comesBefore_19 : decode cX4_comesBefore 19 = .ok (.iconst 5, 1) := by decide +kernel
theorem dX4_comesBefore_20 : decode cX4_comesBefore 20 = .ok (.iaload, 1) := by decide +kernel
theorem dX4_comesBefore_21 : decode cX4_comesBefore 21 = .ok (.aload 4, 2) := by decide +kernel
theorem dX4_comesBefore_23 : decode cX4_comesBefore 23 = .ok (.getfield 80, 3) := by decide +kernel
theorem dX4_comesBefore_26 : decode cX4_comesBefore 26 = .ok (.iconst 5, 1) := by decide +kernel
theorem dX4_comesBefore_27 : decode cX4_comesBefore 27 = .ok (.iaload, 1) := by decide +kernel
theorem dX4_comesBefore_28 : decode cX4_comesBefore 28 = .ok (.if_icmp .eq 25, 3) := by decide +kernel
theorem dX4_comesBefore_31 : decode cX4_comesBefore 31 = .ok (.aload_n 3, 1) := by decide +kernel
theorem dX4_comesBefore_32 : decode cX4_comesBefore 32 = .ok (.getfield 80, 3) := by decide +kernel
theorem dX4_comesBefore_35 : decode cX4_comesBefore 35 = .ok (.iconst 5, 1) := by decide +kernel
theorem dX4_comesBefore_36 : decode cX4_comesBefore 36 = .ok (.iaload, 1) := by decide +kernel
theorem dX4_comesBefore_37 : decode cX4_comesBefore 37 = .ok (.aload 4, 2) := by decide +kernel
theorem dX4_comesBefore_39 : decode cX4_comesBefore 39 = .ok (.getfield 80, 3) := by decide +kernel
theorem dX4_comesBefore_42 : decode cX4_comesBefore 42 = .ok (.iconst 5, 1) := by decide +kernel
theorem dX4_comesBefore_43 : decode cX4_comesBefore 43 = .ok (.iaload, 1) := by decide +kernel
theorem dX4_comesBefore_44 : decode cX4_comesBefore 44 = .ok (.if_icmp .ge 7, 3) := by decide +kernel
theorem dX4_comesBefore_47 : decode cX4_comesBefore 47 = .ok (.iconst 1, 1) := by decide +kernel
theorem dX4_comesBefore_48 : decode cX4_comesBefore 48 = .ok (.goto 4, 3) := by decide +kernel
theorem dX4_comesBefore_51 : decode cX4_comesBefore 51 = .ok (.iconst 0, 1) := by decide +kernel
theorem dX4_comesBefore_52 : decode cX4_comesBefore 52 = .ok (.ireturn, 1) := by decide +kernel
theorem dX4_comesBefore_53 : decode cX4_comesBefore 53 = .ok (.aload_n 3, 1) := by decide +kernel
theorem dX4_comesBefore_54 : decode cX4_comesBefore 54 = .ok (.getfield 152, 3) := by decide +kernel
theorem dX4_comesBefore_57 : decode cX4_comesBefore 57 = .ok (.aload 4, 2) := by decide +kernel
theorem dX4_comesBefore_59 : decode cX4_comesBefore 59 = .ok (.getfield 152, 3) := by decide +kernel
theorem dX4_comesBefore_62 : decode cX4_comesBefore 62 = .ok (.if_icmp .eq 9, 3) := by decide +kernel
theorem dX4_comesBefore_65 : decode cX4_comesBefore 65 = .ok (.aload 4, 2) := by decide +kernel
theorem dX4_comesBefore_67 : decode cX4_comesBefore 67 = .ok (.getfield 152, 3) := by decide +kernel
theorem dX4_comesBefore_70 : decode cX4_comesBefore 70 = .ok (.ireturn, 1) := by decide +kernel
theorem dX4_comesBefore_71 : decode cX4_comesBefore 71 = .ok (.aload_n 3, 1) := by decide +kernel
theorem dX4_comesBefore_72 : decode cX4_comesBefore 72 = .ok (.getfield 155, 3) := by decide +kernel
theorem dX4_comesBefore_75 : decode cX4_comesBefore 75 = .ok (.aload 4, 2) := by decide +kernel
theorem dX4_comesBefore_77 : decode cX4_comesBefore 77 = .ok (.getfield 155, 3) := by decide +kernel
theorem dX4_comesBefore_80 : decode cX4_comesBefore 80 = .ok (.if_icmp .ge 7, 3) := by decide +kernel
theorem dX4_comesBefore_83 : decode cX4_comesBefore 83 = .ok (.iconst 1, 1) := by decide +kernel
theorem dX4_comesBefore_84 : decode cX4_comesBefore 84 = .ok (.goto 4, 3) := by decide +kernel
theorem dX4_comesBefore_87 : decode cX4_comesBefore 87 = .ok (.iconst 0, 1) := by decide +kernel
theorem dX4_comesBefore_88 : decode cX4_comesBefore 88 = .ok (.ireturn, 1) := by decide +kernel
theorem dX4_isCounted_0 : decode cX4_isCounted 0 = .ok (.iload_n 2, 1) := by decide +kernel
theorem dX4_isCounted_1 : decode cX4_isCounted 1 = .ok (.lookupswitch 73 #[(0, 35), (6, 45), (7, 55)], 35) := by decide +kernel
theorem dX4_isCounted_36 : decode cX4_isCounted 36 = .ok (.aload_n 0, 1) := by decide +kernel
theorem dX4_isCounted_37 : decode cX4_isCounted 37 = .ok (.getfield 11, 3) := by decide +kernel
theorem dX4_isCounted_40 : decode cX4_isCounted 40 = .ok (.iload_n 1, 1) := by decide +kernel
theorem dX4_isCounted_41 : decode cX4_isCounted 41 = .ok (.aaload, 1) := by decide +kernel
theorem dX4_isCounted_42 : decode cX4_isCounted 42 = .ok (.invokevirtual 178, 3) := by decide +kernel
theorem dX4_isCounted_45 : decode cX4_isCounted 45 = .ok (.ireturn, 1) := by decide +kernel
theorem dX4_isCounted_46 : decode cX4_isCounted 46 = .ok (.aload_n 0, 1) := by decide +kernel
theorem dX4_isCounted_47 : decode cX4_isCounted 47 = .ok (.getfield 11, 3) := by decide +kernel
theorem dX4_isCounted_50 : decode cX4_isCounted 50 = .ok (.iload_n 1, 1) := by decide +kernel
theorem dX4_isCounted_51 : decode cX4_isCounted 51 = .ok (.aaload, 1) := by decide +kernel
theorem dX4_isCounted_52 : decode cX4_isCounted 52 = .ok (.invokevirtual 87, 3) := by decide +kernel
theorem dX4_isCounted_55 : decode cX4_isCounted 55 = .ok (.ireturn, 1) := by decide +kernel
theorem dX4_isCounted_56 : decode cX4_isCounted 56 = .ok (.aload_n 0, 1) := by decide +kernel
theorem dX4_isCounted_57 : decode cX4_isCounted 57 = .ok (.getfield 11, 3) := by decide +kernel
theorem dX4_isCounted_60 : decode cX4_isCounted 60 = .ok (.iload_n 1, 1) := by decide +kernel
theorem dX4_isCounted_61 : decode cX4_isCounted 61 = .ok (.aaload, 1) := by decide +kernel
theorem dX4_isCounted_62 : decode cX4_isCounted 62 = .ok (.getfield 152, 3) := by decide +kernel
theorem dX4_isCounted_65 : decode cX4_isCounted 65 = .ok (.ifCond .ne 7, 3) := by decide +kernel
theorem dX4_isCounted_68 : decode cX4_isCounted 68 = .ok (.iconst 1, 1) := by decide +kernel
theorem dX4_isCounted_69 : decode cX4_isCounted 69 = .ok (.goto 4, 3) := by decide +kernel
theorem dX4_isCounted_72 : decode cX4_isCounted 72 = .ok (.iconst 0, 1) := by decide +kernel
theorem dX4_isCounted_73 : decode cX4_isCounted 73 = .ok (.ireturn, 1) := by decide +kernel
theorem dX4_isCounted_74 : decode cX4_isCounted 74 = .ok (.aload_n 0, 1) := by decide +kernel
theorem dX4_isCounted_75 : decode cX4_isCounted 75 = .ok (.iload_n 1, 1) := by decide +kernel
theorem dX4_isCounted_76 : decode cX4_isCounted 76 = .ok (.invokevirtual 172, 3) := by decide +kernel
theorem dX4_isCounted_79 : decode cX4_isCounted 79 = .ok (.iload_n 2, 1) := by decide +kernel
theorem dX4_isCounted_80 : decode cX4_isCounted 80 = .ok (.iconst 1, 1) := by decide +kernel
theorem dX4_isCounted_81 : decode cX4_isCounted 81 = .ok (.isub, 1) := by decide +kernel
theorem dX4_isCounted_82 : decode cX4_isCounted 82 = .ok (.if_icmp .ne 7, 3) := by decide +kernel
theorem dX4_isCounted_85 : decode cX4_isCounted 85 = .ok (.iconst 1, 1) := by decide +kernel
theorem dX4_isCounted_86 : decode cX4_isCounted 86 = .ok (.goto 4, 3) := by decide +kernel
theorem dX4_isCounted_89 : decode cX4_isCounted 89 = .ok (.iconst 0, 1) := by decide +kernel
theorem dX4_isCounted_90 : decode cX4_isCounted 90 = .ok (.ireturn, 1) := by decide +kernel
theorem dX5_init_0 : decode cX5_init 0 = .ok (.aload_n 0, 1) := by decide +kernel
theorem dX5_init_1 : decode cX5_init 1 = .ok (.invokespecial 1, 3) := by decide +kernel
theorem dX5_init_4 : decode cX5_init 4 = .ok (.aload_n 0, 1) := by decide +kernel
theorem dX5_init_5 : decode cX5_init 5 = .ok (.new 7, 3) := by decide +kernel
theorem dX5_init_8 : decode cX5_init 8 = .ok (.dup, 1) := by decide +kernel
theorem dX5_init_9 : decode cX5_init 9 = .ok (.invokespecial 9, 3) := by decide +kernel
theorem dX5_init_12 : decode cX5_init 12 = .ok (.putfield 10, 3) := by decide +kernel
theorem dX5_init_15 : decode cX5_init 15 = .ok (.aload_n 0, 1) := by decide +kernel
theorem dX5_init_16 : decode cX5_init 16 = .ok (.bipush 16, 2) := by decide +kernel
theorem dX5_init_18 : decode cX5_init 18 = .ok (.newarray .int, 2) := by decide +kernel
theorem dX5_init_20 : decode cX5_init 20 = .ok (.putfield 16, 3) := by decide +kernel
theorem dX5_init_23 : decode cX5_init 23 = .ok (.aload_n 0, 1) := by decide +kernel
theorem dX5_init_24 : decode cX5_init 24 = .ok (.iconst 4, 1) := by decide +kernel
theorem dX5_init_25 : decode cX5_init 25 = .ok (.anewarray 20, 3) := by decide +kernel
theorem dX5_init_28 : decode cX5_init 28 = .ok (.putfield 22, 3) := by decide +kernel
theorem dX5_init_31 : decode cX5_init 31 = .ok (.iconst 0, 1) := by decide +kernel
theorem dX5_init_32 : decode cX5_init 32 = .ok (.istore_n 1, 1) := by decide +kernel
theorem dX5_init_33 : decode cX5_init 33 = .ok (.iload_n 1, 1) := by decide +kernel
theorem dX5_init_34 : decode cX5_init 34 = .ok (.iconst 4, 1) := by decide +kernel
theorem dX5_init_35 : decode cX5_init 35 = .ok (.if_icmp .ge 22, 3) := by decide +kernel
theorem dX5_init_38 : decode cX5_init 38 = .ok (.aload_n 0, 1) := by decide +kernel
theorem dX5_init_39 : decode cX5_init 39 = .ok (.getfield 22, 3) := by decide +kernel
theorem dX5_init_42 : decode cX5_init 42 = .ok (.iload_n 1, 1) := by decide +kernel
theorem dX5_init_43 : decode cX5_init 43 = .ok (.new 20, 3) := by decide +kernel
theorem dX5_init_46 : decode cX5_init 46 = .ok (.dup, 1) := by decide +kernel
theorem dX5_init_47 : decode cX5_init 47 = .ok (.invokespecial 26, 3) := by decide +kernel
theorem dX5_init_50 : decode cX5_init 50 = .ok (.aastore, 1) := by decide +kernel
theorem dX5_init_51 : decode cX5_init 51 = .ok (.iinc 1 1, 3) := by decide +kernel
theorem dX5_init_54 : decode cX5_init 54 = .ok (.goto (-21), 3) := by decide +kernel
theorem dX5_init_57 : decode cX5_init 57 = .ok (.aload_n 0, 1) := by decide +kernel
theorem dX5_init_58 : decode cX5_init 58 = .ok (.new 20, 3) := by decide +kernel
theorem dX5_init_61 : decode cX5_init 61 = .ok (.dup, 1) := by decide +kernel
theorem dX5_init_62 : decode cX5_init 62 = .ok (.invokespecial 26, 3) := by decide +kernel
theorem dX5_init_65 : decode cX5_init 65 = .ok (.putfield 27, 3) := by decide +kernel
theorem dX5_init_68 : decode cX5_init 68 = .ok (.aload_n 0, 1) := by decide +kernel
theorem dX5_init_69 : decode cX5_init 69 = .ok (.new 20, 3) := by decide +kernel
theorem dX5_init_72 : decode cX5_init 72 = .ok (.dup, 1) := by decide +kernel
theorem dX5_init_73 : decode cX5_init 73 = .ok (.invokespecial 26, 3) := by decide +kernel
theorem dX5_init_76 : decode cX5_init 76 = .ok (.putfield 31, 3) := by decide +kernel
theorem dX5_init_79 : decode cX5_init 79 = .ok (.return_, 1) := by decide +kernel
theorem dX5_add_0 : decode cX5_add 0 = .ok (.aload_n 0, 1) := by decide +kernel
theorem dX5_add_1 : decode cX5_add 1 = .ok (.invokevirtual 34, 3) := by decide +kernel
theorem dX5_add_4 : decode cX5_add 4 = .ok (.aload_n 0, 1) := by decide +kernel
theorem dX5_add_5 : decode cX5_add 5 = .ok (.aload_n 0, 1) := by decide +kernel
theorem dX5_add_6 : decode cX5_add 6 = .ok (.getfield 27, 3) := by decide +kernel
theorem dX5_add_9 : decode cX5_add 9 = .ok (.iload_n 1, 1) := by decide +kernel
theorem dX5_add_10 : decode cX5_add 10 = .ok (.iload_n 2, 1) := by decide +kernel
theorem dX5_add_11 : decode cX5_add 11 = .ok (.invokevirtual 37, 3) := by decide +kernel
theorem dX5_add_14 : decode cX5_add 14 = .ok (.invokevirtual 41, 3) := by decide +kernel
theorem dX5_add_17 : decode cX5_add 17 = .ok (.ireturn, 1) := by decide +kernel
theorem dX5_set_0 : decode cX5_set 0 = .ok (.aload_n 0, 1) := by decide +kernel
theorem dX5_set_1 : decode cX5_set 1 = .ok (.invokevirtual 34, 3) := by decide +kernel
theorem dX5_set_4 : decode cX5_set 4 = .ok (.aload_n 0, 1) := by decide +kernel
theorem dX5_set_5 : decode cX5_set 5 = .ok (.aload_n 0, 1) := by decide +kernel
theorem dX5_set_6 : decode cX5_set 6 = .ok (.getfield 27, 3) := by decide +kernel
theorem dX5_set_9 : decode cX5_set 9 = .ok (.iload_n 1, 1) := by decide +kernel
theorem dX5_set_10 : decode cX5_set 10 = .ok (.iload_n 2, 1) := by decide +kernel
theorem dX5_set_11 : decode cX5_set 11 = .ok (.iload_n 3, 1) := by decide +kernel
theorem dX5_set_12 : decode cX5_set 12 = .ok (.invokevirtual 45, 3) := by decide +kernel
theorem dX5_set_15 : decode cX5_set 15 = .ok (.invokevirtual 41, 3) := by decide +kernel
theorem dX5_set_18 : decode cX5_set 18 = .ok (.ireturn, 1) := by decide +kernel
theorem dX5_setRoot_0 : decode cX5_setRoot 0 = .ok (.aload_n 0, 1) := by decide +kernel
theorem dX5_setRoot_1 : decode cX5_setRoot 1 = .ok (.invokevirtual 34, 3) := by decide +kernel
theorem dX5_setRoot_4 : decode cX5_setRoot 4 = .ok (.aload_n 0, 1) := by decide +kernel
theorem dX5_setRoot_5 : decode cX5_setRoot 5 = .ok (.aload_n 0, 1) := by decide +kernel
theorem dX5_setRoot_6 : decode cX5_setRoot 6 = .ok (.getfield 27, 3) := by decide +kernel
theorem dX5_setRoot_9 : decode cX5_setRoot 9 = .ok (.iload_n 1, 1) := by decide +kernel
theorem dX5_setRoot_10 : decode cX5_setRoot 10 = .ok (.iload_n 2, 1) := by decide +kernel
theorem dX5_setRoot_11 : decode cX5_setRoot 11 = .ok (.invokevirtual 49, 3) := by decide +kernel
theorem dX5_setRoot_14 : decode cX5_setRoot 14 = .ok (.invokevirtual 41, 3) := by decide +kernel
theorem dX5_setRoot_17 : decode cX5_setRoot 17 = .ok (.ireturn, 1) := by decide +kernel
theorem dX5_setValue_0 : decode cX5_setValue 0 = .ok (.aload_n 0, 1) := by decide +kernel
theorem dX5_setValue_1 : decode cX5_setValue 1 = .ok (.invokevirtual 34, 3) := by decide +kernel
theorem dX5_setValue_4 : decode cX5_setValue 4 = .ok (.aload_n 0, 1) := by decide +kernel
theorem dX5_setValue_5 : decode cX5_setValue 5 = .ok (.aload_n 0, 1) := by decide +kernel
theorem dX5_setValue_6 : decode cX5_setValue 6 = .ok (.getfield 27, 3) := by decide +kernel
theorem dX5_setValue_9 : decode cX5_setValue 9 = .ok (.iload_n 1, 1) := by decide +kernel
theorem dX5_setValue_10 : decode cX5_setValue 10 = .ok (.iload_n 2, 1) := by decide +kernel
theorem dX5_setValue_11 : decode cX5_setValue 11 = .ok (.invokevirtual 52, 3) := by decide +kernel
theorem dX5_setValue_14 : decode cX5_setValue 14 = .ok (.invokevirtual 41, 3) := by decide +kernel
theorem dX5_setValue_17 : decode cX5_setValue 17 = .ok (.ireturn, 1) := by decide +kernel
theorem dX5_point_0 : decode cX5_point 0 = .ok (.aload_n 0, 1) := by decide +kernel
theorem dX5_point_1 : decode cX5_point 1 = .ok (.getfield 27, 3) := by decide +kernel
theorem dX5_point_4 : decode cX5_point 4 = .ok (.iload_n 1, 1) := by decide +kernel
theorem dX5_point_5 : decode cX5_point 5 = .ok (.invokevirtual 55, 3) := by decide +kernel
theorem dX5_point_8 : decode cX5_point 8 = .ok (.ifCond .eq 13, 3) := by decide +kernel
theorem dX5_point_11 : decode cX5_point 11 = .ok (.iload_n 2, 1) := by decide +kernel
theorem dX5_point_12 : decode cX5_point 12 = .ok (.iconst 0, 1) := by decide +kernel
theorem dX5_point_13 : decode cX5_point 13 = .ok (.bipush 15, 2) := by decide +kernel
theorem dX5_point_15 : decode cX5_point 15 = .ok (.invokestatic 59, 3) := by decide +kernel
theorem dX5_point_18 : decode cX5_point 18 = .ok (.ifCond .ne 7, 3) := by decide +kernel
theorem dX5_point_21 : decode cX5_point 21 = .ok (.sipush (-20001), 3) := by decide +kernel
theorem dX5_point_24 : decode cX5_point 24 = .ok (.ireturn, 1) := by decide +kernel
theorem dX5_point_25 : decode cX5_point 25 = .ok (.aload_n 0, 1) := by decide +kernel
theorem dX5_point_26 : decode cX5_point 26 = .ok (.getfield 27, 3) := by decide +kernel
theorem dX5_point_29 : decode cX5_point 29 = .ok (.iload_n 1, 1) := by decide +kernel
theorem dX5_point_30 : decode cX5_point 30 = .ok (.iload_n 2, 1) := by decide +kernel
theorem dX5_point_31 : decode cX5_point 31 = .ok (.invokevirtual 63, 3) := by decide +kernel
theorem dX5_point_34 : decode cX5_point 34 = .ok (.ireturn, 1) := by decide +kernel
theorem dX5_points_0 : decode cX5_points 0 = .ok (.aload_n 0, 1) := by decide +kernel
theorem dX5_points_1 : decode cX5_points 1 = .ok (.getfield 27, 3) := by decide +kernel
theorem dX5_points_4 : decode cX5_points 4 = .ok (.getfield 66, 3) := by decide +kernel
theorem dX5_points_7 : decode cX5_points 7 = .ok (.ireturn, 1) := by decide +kernel
theorem dX5_setState_0 : decode cX5_setState 0 = .ok (.aload_n 0, 1) := by decide +kernel
theorem dX5_setState_1 : decode cX5_setState 1 = .ok (.invokevirtual 34, 3) := by decide +kernel
theorem dX5_setState_4 : decode cX5_setState 4 = .ok (.aload_n 0, 1) := by decide +kernel
theorem dX5_setState_5 : decode cX5_setState 5 = .ok (.aload_n 0, 1) := by decide +kernel
theorem dX5_setState_6 : decode cX5_setState 6 = .ok (.getfield 27, 3) := by decide +kernel
theorem dX5_setState_9 : decode cX5_setState 9 = .ok (.iload_n 1, 1) := by decide +kernel
theorem dX5_setState_10 : decode cX5_setState 10 = .ok (.invokevirtual 70, 3) := by decide +kernel
theorem dX5_setState_13 : decode cX5_setState 13 = .ok (.invokevirtual 41, 3) := by decide +kernel
theorem dX5_setState_16 : decode cX5_setState 16 = .ok (.ireturn, 1) := by decide +kernel
theorem dX5_setFlood_0 : decode cX5_setFlood 0 = .ok (.aload_n 0, 1) := by decide +kernel
theorem dX5_setFlood_1 : decode cX5_setFlood 1 = .ok (.invokevirtual 34, 3) := by decide +kernel
theorem dX5_setFlood_4 : decode cX5_setFlood 4 = .ok (.aload_n 0, 1) := by decide +kernel
theorem dX5_setFlood_5 : decode cX5_setFlood 5 = .ok (.aload_n 0, 1) := by decide +kernel
theorem dX5_setFlood_6 : decode cX5_setFlood 6 = .ok (.getfield 27, 3) := by decide +kernel
theorem dX5_setFlood_9 : decode cX5_setFlood 9 = .ok (.iload_n 1, 1) := by decide +kernel
theorem dX5_setFlood_10 : decode cX5_setFlood 10 = .ok (.iload_n 2, 1) := by decide +kernel
theorem dX5_setFlood_11 : decode cX5_setFlood 11 = .ok (.iload_n 3, 1) := by decide +kernel
theorem dX5_setFlood_12 : decode cX5_setFlood 12 = .ok (.invokevirtual 73, 3) := by decide +kernel
theorem dX5_setFlood_15 : decode cX5_setFlood 15 = .ok (.invokevirtual 41, 3) := by decide +kernel
theorem dX5_setFlood_18 : decode cX5_setFlood 18 = .ok (.ireturn, 1) := by decide +kernel
theorem dX5_tick_0 : decode cX5_tick 0 = .ok (.aload_n 0, 1) := by decide +kernel
theorem dX5_tick_1 : decode cX5_tick 1 = .ok (.invokevirtual 34, 3) := by decide +kernel
theorem dX5_tick_4 : decode cX5_tick 4 = .ok (.aload_n 0, 1) := by decide +kernel
theorem dX5_tick_5 : decode cX5_tick 5 = .ok (.aload_n 0, 1) := by decide +kernel
theorem dX5_tick_6 : decode cX5_tick 6 = .ok (.getfield 27, 3) := by decide +kernel
theorem dX5_tick_9 : decode cX5_tick 9 = .ok (.iload_n 1, 1) := by decide +kernel
theorem dX5_tick_10 : decode cX5_tick 10 = .ok (.invokevirtual 76, 3) := by decide +kernel
theorem dX5_tick_13 : decode cX5_tick 13 = .ok (.invokevirtual 41, 3) := by decide +kernel
theorem dX5_tick_16 : decode cX5_tick 16 = .ok (.ireturn, 1) := by decide +kernel
theorem dX5_plant_0 : decode cX5_plant 0 = .ok (.iload_n 1, 1) := by decide +kernel
theorem dX5_plant_1 : decode cX5_plant 1 = .ok (.tableswitch 96 0 4 #[35, 43, 51, 70, 88], 35) := by decide +kernel
theorem dX5_plant_36 : decode cX5_plant 36 = .ok (.aload_n 0, 1) := by decide +kernel
theorem dX5_plant_37 : decode cX5_plant 37 = .ok (.getfield 27, 3) := by decide +kernel
theorem dX5_plant_40 : decode cX5_plant 40 = .ok (.getfield 79, 3) := by decide +kernel
theorem dX5_plant_43 : decode cX5_plant 43 = .ok (.ireturn, 1) := by decide +kernel
theorem dX5_plant_44 : decode cX5_plant 44 = .ok (.aload_n 0, 1) := by decide +kernel
theorem dX5_plant_45 : decode cX5_plant 45 = .ok (.getfield 27, 3) := by decide +kernel
theorem dX5_plant_48 : decode cX5_plant 48 = .ok (.getfield 82, 3) := by decide +kernel
theorem dX5_plant_51 : decode cX5_plant 51 = .ok (.ireturn, 1) := by decide +kernel
theorem dX5_plant_52 : decode cX5_plant 52 = .ok (.aload_n 0, 1) := by decide +kernel
theorem dX5_plant_53 : decode cX5_plant 53 = .ok (.getfield 27, 3) := by decide +kernel
theorem dX5_plant_56 : decode cX5_plant 56 = .ok (.getfield 85, 3) := by decide +kernel
theorem dX5_plant_59 : decode cX5_plant 59 = .ok (.getfield 89, 3) := by decide +kernel
theorem dX5_plant_62 : decode cX5_plant 62 = .ok (.ifCond .eq 7, 3) := by decide +kernel
theorem dX5_plant_65 : decode cX5_plant 65 = .ok (.iconst 1, 1) := by decide +kernel
theorem dX5_plant_66 : decode cX5_plant 66 = .ok (.goto 4, 3) := by decide +kernel
theorem dX5_plant_69 : decode cX5_plant 69 = .ok (.iconst 0, 1) := by decide +kernel
theorem dX5_plant_70 : decode cX5_plant 70 = .ok (.ireturn, 1) := by decide +kernel
theorem dX5_plant_71 : decode cX5_plant 71 = .ok (.aload_n 0, 1) := by decide +kernel
theorem dX5_plant_72 : decode cX5_plant 72 = .ok (.getfield 27, 3) := by decide +kernel
theorem dX5_plant_75 : decode cX5_plant 75 = .ok (.getfield 85, 3) := by decide +kernel
theorem dX5_plant_78 : decode cX5_plant 78 = .ok (.aload_n 0, 1) := by decide +kernel
theorem dX5_plant_79 : decode cX5_plant 79 = .ok (.getfield 27, 3) := by decide +kernel
theorem dX5_plant_82 : decode cX5_plant 82 = .ok (.getfield 79, 3) := by decide +kernel
theorem dX5_plant_85 : decode cX5_plant 85 = .ok (.invokevirtual 95, 3) := by decide +kernel
theorem dX5_plant_88 : decode cX5_plant 88 = .ok (.ireturn, 1) := by decide +kernel
theorem dX5_plant_89 : decode cX5_plant 89 = .ok (.aload_n 0, 1) := by decide +kernel
theorem dX5_plant_90 : decode cX5_plant 90 = .ok (.getfield 27, 3) := by decide +kernel
theorem dX5_plant_93 : decode cX5_plant 93 = .ok (.getfield 98, 3) := by decide +kernel
theorem dX5_plant_96 : decode cX5_plant 96 = .ok (.ireturn, 1) := by decide +kernel
theorem dX5_plant_97 : decode cX5_plant 97 = .ok (.sipush (-20001), 3) := by decide +kernel
theorem dX5_plant_100 : decode cX5_plant 100 = .ok (.ireturn, 1) := by decide +kernel
theorem dX5_ack_0 : decode cX5_ack 0 = .ok (.aload_n 0, 1) := by decide +kernel
theorem dX5_ack_1 : decode cX5_ack 1 = .ok (.invokevirtual 34, 3) := by decide +kernel
theorem dX5_ack_4 : decode cX5_ack 4 = .ok (.aload_n 0, 1) := by decide +kernel
theorem dX5_ack_5 : decode cX5_ack 5 = .ok (.aload_n 0, 1) := by decide +kernel
theorem dX5_ack_6 : decode cX5_ack 6 = .ok (.getfield 27, 3) := by decide +kernel
theorem dX5_ack_9 : decode cX5_ack 9 = .ok (.iload_n 1, 1) := by decide +kernel
theorem dX5_ack_10 : decode cX5_ack 10 = .ok (.invokevirtual 101, 3) := by decide +kernel
theorem dX5_ack_13 : decode cX5_ack 13 = .ok (.invokevirtual 41, 3) := by decide +kernel
theorem dX5_ack_16 : decode cX5_ack 16 = .ok (.ireturn, 1) := by decide +kernel
theorem dX5_ackAll_0 : decode cX5_ackAll 0 = .ok (.aload_n 0, 1) := by decide +kernel
theorem dX5_ackAll_1 : decode cX5_ackAll 1 = .ok (.invokevirtual 34, 3) := by decide +kernel
theorem dX5_ackAll_4 : decode cX5_ackAll 4 = .ok (.aload_n 0, 1) := by decide +kernel
theorem dX5_ackAll_5 : decode cX5_ackAll 5 = .ok (.getfield 27, 3) := by decide +kernel
theorem dX5_ackAll_8 : decode cX5_ackAll 8 = .ok (.aload_n 0, 1) := by decide +kernel
theorem dX5_ackAll_9 : decode cX5_ackAll 9 = .ok (.getfield 16, 3) := by decide +kernel
theorem dX5_ackAll_12 : decode cX5_ackAll 12 = .ok (.invokevirtual 104, 3) := by decide +kernel
theorem dX5_ackAll_15 : decode cX5_ackAll 15 = .ok (.istore_n 1, 1) := by decide +kernel
theorem dX5_ackAll_16 : decode cX5_ackAll 16 = .ok (.iconst 0, 1) := by decide +kernel
theorem dX5_ackAll_17 : decode cX5_ackAll 17 = .ok (.istore_n 2, 1) := by decide +kernel
theorem dX5_ackAll_18 : decode cX5_ackAll 18 = .ok (.iconst 0, 1) := by decide +kernel
theorem dX5_ackAll_19 : decode cX5_ackAll 19 = .ok (.istore_n 3, 1) := by decide +kernel
theorem dX5_ackAll_20 : decode cX5_ackAll 20 = .ok (.iload_n 3, 1) := by decide +kernel
theorem dX5_ackAll_21 : decode cX5_ackAll 21 = .ok (.iload_n 1, 1) := by decide +kernel
theorem dX5_ackAll_22 : decode cX5_ackAll 22 = .ok (.if_icmp .ge 31, 3) := by decide +kernel
theorem dX5_ackAll_25 : decode cX5_ackAll 25 = .ok (.aload_n 0, 1) := by decide +kernel
theorem dX5_ackAll_26 : decode cX5_ackAll 26 = .ok (.getfield 27, 3) := by decide +kernel
theorem dX5_ackAll_29 : decode cX5_ackAll 29 = .ok (.aload_n 0, 1) := by decide +kernel
theorem dX5_ackAll_30 : decode cX5_ackAll 30 = .ok (.getfield 16, 3) := by decide +kernel
theorem dX5_ackAll_33 : decode cX5_ackAll 33 = .ok (.iload_n 3, 1) := by decide +kernel
theorem dX5_ackAll_34 : decode cX5_ackAll 34 = .ok (.iaload, 1) := by decide +kernel
theorem dX5_ackAll_35 : decode cX5_ackAll 35 = .ok (.invokevirtual 101, 3) := by decide +kernel
theorem dX5_ackAll_38 : decode cX5_ackAll 38 = .ok (.invokestatic 108, 3) := by decide +kernel
theorem dX5_ackAll_41 : decode cX5_ackAll 41 = .ok (.ifCond .ne 6, 3) := by decide +kernel
theorem dX5_ackAll_44 : decode cX5_ackAll 44 = .ok (.iinc 2 1, 3) := by decide +kernel
theorem dX5_ackAll_47 : decode cX5_ackAll 47 = .ok (.iinc 3 1, 3) := by decide +kernel
theorem dX5_ackAll_50 : decode cX5_ackAll 50 = .ok (.goto (-30), 3) := by decide +kernel
theorem dX5_ackAll_53 : decode cX5_ackAll 53 = .ok (.aload_n 0, 1) := by decide +kernel
theorem dX5_ackAll_54 : decode cX5_ackAll 54 = .ok (.iload_n 2, 1) := by decide +kernel
theorem dX5_ackAll_55 : decode cX5_ackAll 55 = .ok (.invokevirtual 41, 3) := by decide +kernel
theorem dX5_ackAll_58 : decode cX5_ackAll 58 = .ok (.ireturn, 1) := by decide +kernel
theorem dX5_shelve_0 : decode cX5_shelve 0 = .ok (.aload_n 0, 1) := by decide +kernel
theorem dX5_shelve_1 : decode cX5_shelve 1 = .ok (.invokevirtual 34, 3) := by decide +kernel
theorem dX5_shelve_4 : decode cX5_shelve 4 = .ok (.aload_n 0, 1) := by decide +kernel
theorem dX5_shelve_5 : decode cX5_shelve 5 = .ok (.aload_n 0, 1) := by decide +kernel
theorem dX5_shelve_6 : decode cX5_shelve 6 = .ok (.getfield 27, 3) := by decide +kernel
theorem dX5_shelve_9 : decode cX5_shelve 9 = .ok (.iload_n 1, 1) := by decide +kernel
theorem dX5_shelve_10 : decode cX5_shelve 10 = .ok (.iload_n 2, 1) := by decide +kernel
theorem dX5_shelve_11 : decode cX5_shelve 11 = .ok (.invokevirtual 111, 3) := by decide +kernel
theorem dX5_shelve_14 : decode cX5_shelve 14 = .ok (.invokevirtual 41, 3) := by decide +kernel
theorem dX5_shelve_17 : decode cX5_shelve 17 = .ok (.ireturn, 1) := by decide +kernel
theorem dX5_unshelve_0 : decode cX5_unshelve 0 = .ok (.aload_n 0, 1) := by decide +kernel
theorem dX5_unshelve_1 : decode cX5_unshelve 1 = .ok (.invokevirtual 34, 3) := by decide +kernel
theorem dX5_unshelve_4 : decode cX5_unshelve 4 = .ok (.aload_n 0, 1) := by decide +kernel
theorem dX5_unshelve_5 : decode cX5_unshelve 5 = .ok (.aload_n 0, 1) := by decide +kernel
theorem dX5_unshelve_6 : decode cX5_unshelve 6 = .ok (.getfield 27, 3) := by decide +kernel
theorem dX5_unshelve_9 : decode cX5_unshelve 9 = .ok (.iload_n 1, 1) := by decide +kernel
theorem dX5_unshelve_10 : decode cX5_unshelve 10 = .ok (.invokevirtual 114, 3) := by decide +kernel
theorem dX5_unshelve_13 : decode cX5_unshelve 13 = .ok (.invokevirtual 41, 3) := by decide +kernel
theorem dX5_unshelve_16 : decode cX5_unshelve 16 = .ok (.ireturn, 1) := by decide +kernel
theorem dX5_list_0 : decode cX5_list 0 = .ok (.iload_n 1, 1) := by decide +kernel
theorem dX5_list_1 : decode cX5_list 1 = .ok (.ifCond .ge 7, 3) := by decide +kernel
theorem dX5_list_4 : decode cX5_list 4 = .ok (.sipush (-20001), 3) := by decide +kernel
theorem dX5_list_7 : decode cX5_list 7 = .ok (.ireturn, 1) := by decide +kernel
theorem dX5_list_8 : decode cX5_list 8 = .ok (.aload_n 0, 1) := by decide +kernel
theorem dX5_list_9 : decode cX5_list 9 = .ok (.getfield 27, 3) := by decide +kernel
theorem dX5_list_12 : decode cX5_list 12 = .ok (.aload_n 0, 1) := by decide +kernel
theorem dX5_list_13 : decode cX5_list 13 = .ok (.getfield 16, 3) := by decide +kernel
theorem dX5_list_16 : decode cX5_list 16 = .ok (.invokevirtual 104, 3) := by decide +kernel
theorem dX5_list_19 : decode cX5_list 19 = .ok (.istore_n 2, 1) := by decide +kernel
theorem dX5_list_20 : decode cX5_list 20 = .ok (.iload_n 1, 1) := by decide +kernel
theorem dX5_list_21 : decode cX5_list 21 = .ok (.iload_n 2, 1) := by decide +kernel
theorem dX5_list_22 : decode cX5_list 22 = .ok (.if_icmp .ge 12, 3) := by decide +kernel
theorem dX5_list_25 : decode cX5_list 25 = .ok (.aload_n 0, 1) := by decide +kernel
theorem dX5_list_26 : decode cX5_list 26 = .ok (.getfield 16, 3) := by decide +kernel
theorem dX5_list_29 : decode cX5_list 29 = .ok (.iload_n 1, 1) := by decide +kernel
theorem dX5_list_30 : decode cX5_list 30 = .ok (.iaload, 1) := by decide +kernel
theorem dX5_list_31 : decode cX5_list 31 = .ok (.goto 6, 3) := by decide +kernel
theorem dX5_list_34 : decode cX5_list 34 = .ok (.sipush (-20009), 3) := by decide +kernel
theorem dX5_list_37 : decode cX5_list 37 = .ok (.ireturn, 1) := by decide +kernel
theorem dX5_count_0 : decode cX5_count 0 = .ok (.iload_n 1, 1) := by decide +kernel
theorem dX5_count_1 : decode cX5_count 1 = .ok (.iconst 0, 1) := by decide +kernel
theorem dX5_count_2 : decode cX5_count 2 = .ok (.bipush 7, 2) := by decide +kernel
theorem dX5_count_4 : decode cX5_count 4 = .ok (.invokestatic 59, 3) := by decide +kernel
theorem dX5_count_7 : decode cX5_count 7 = .ok (.ifCond .ne 7, 3) := by decide +kernel
theorem dX5_count_10 : decode cX5_count 10 = .ok (.sipush (-20001), 3) := by decide +kernel
theorem dX5_count_13 : decode cX5_count 13 = .ok (.ireturn, 1) := by decide +kernel
theorem dX5_count_14 : decode cX5_count 14 = .ok (.iconst 0, 1) := by decide +kernel
theorem dX5_count_15 : decode cX5_count 15 = .ok (.istore_n 2, 1) := by decide +kernel
theorem dX5_count_16 : decode cX5_count 16 = .ok (.iconst 0, 1) := by decide +kernel
theorem dX5_count_17 : decode cX5_count 17 = .ok (.istore_n 3, 1) := by decide +kernel
theorem dX5_count_18 : decode cX5_count 18 = .ok (.iload_n 3, 1) := by decide +kernel
theorem dX5_count_19 : decode cX5_count 19 = .ok (.aload_n 0, 1) := by decide +kernel
theorem dX5_count_20 : decode cX5_count 20 = .ok (.getfield 27, 3) := by decide +kernel
theorem dX5_count_23 : decode cX5_count 23 = .ok (.getfield 66, 3) := by decide +kernel
theorem dX5_count_26 : decode cX5_count 26 = .ok (.if_icmp .ge 24, 3) := by decide +kernel
theorem dX5_count_29 : decode cX5_count 29 = .ok (.aload_n 0, 1) := by decide +kernel
theorem dX5_count_30 : decode cX5_count 30 = .ok (.getfield 27, 3) := by decide +kernel
theorem dX5_count_33 : decode cX5_count 33 = .ok (.iload_n 3, 1) := by decide +kernel
theorem dX5_count_34 : decode cX5_count 34 = .ok (.iload_n 1, 1) := by decide +kernel
theorem dX5_count_35 : decode cX5_count 35 = .ok (.invokevirtual 117, 3) := by decide +kernel
theorem dX5_count_38 : decode cX5_count 38 = .ok (.ifCond .eq 6, 3) := by decide +kernel
theorem dX5_count_41 : decode cX5_count 41 = .ok (.iinc 2 1, 3) := by decide +kernel
theorem dX5_count_44 : decode cX5_count 44 = .ok (.iinc 3 1, 3) := by decide +kernel
theorem dX5_count_47 : decode cX5_count 47 = .ok (.goto (-29), 3) := by decide +kernel
theorem dX5_count_50 : decode cX5_count 50 = .ok (.iload_n 2, 1) := by decide +kernel
theorem dX5_count_51 : decode cX5_count 51 = .ok (.ireturn, 1) := by decide +kernel
theorem dX5_events_0 : decode cX5_events 0 = .ok (.aload_n 0, 1) := by decide +kernel
theorem dX5_events_1 : decode cX5_events 1 = .ok (.getfield 27, 3) := by decide +kernel
theorem dX5_events_4 : decode cX5_events 4 = .ok (.getfield 121, 3) := by decide +kernel
theorem dX5_events_7 : decode cX5_events 7 = .ok (.getfield 125, 3) := by decide +kernel
theorem dX5_events_10 : decode cX5_events 10 = .ok (.ireturn, 1) := by decide +kernel
theorem dX5_event_0 : decode cX5_event 0 = .ok (.iload_n 1, 1) := by decide +kernel
theorem dX5_event_1 : decode cX5_event 1 = .ok (.ifCond .lt 12, 3) := by decide +kernel
theorem dX5_event_4 : decode cX5_event 4 = .ok (.iload_n 2, 1) := by decide +kernel
theorem dX5_event_5 : decode cX5_event 5 = .ok (.iconst 0, 1) := by decide +kernel
theorem dX5_event_6 : decode cX5_event 6 = .ok (.iconst 2, 1) := by decide +kernel
theorem dX5_event_7 : decode cX5_event 7 = .ok (.invokestatic 59, 3) := by decide +kernel
theorem dX5_event_10 : decode cX5_event 10 = .ok (.ifCond .ne 7, 3) := by decide +kernel
theorem dX5_event_13 : decode cX5_event 13 = .ok (.sipush (-20001), 3) := by decide +kernel
theorem dX5_event_16 : decode cX5_event 16 = .ok (.ireturn, 1) := by decide +kernel
theorem dX5_event_17 : decode cX5_event 17 = .ok (.iload_n 1, 1) := by decide +kernel
theorem dX5_event_18 : decode cX5_event 18 = .ok (.aload_n 0, 1) := by decide +kernel
theorem dX5_event_19 : decode cX5_event 19 = .ok (.getfield 27, 3) := by decide +kernel
theorem dX5_event_22 : decode cX5_event 22 = .ok (.getfield 121, 3) := by decide +kernel
theorem dX5_event_25 : decode cX5_event 25 = .ok (.invokevirtual 130, 3) := by decide +kernel
theorem dX5_event_28 : decode cX5_event 28 = .ok (.if_icmp .lt 7, 3) := by decide +kernel
theorem dX5_event_31 : decode cX5_event 31 = .ok (.sipush (-20009), 3) := by decide +kernel
theorem dX5_event_34 : decode cX5_event 34 = .ok (.ireturn, 1) := by decide +kernel
theorem dX5_event_35 : decode cX5_event 35 = .ok (.aload_n 0, 1) := by decide +kernel
theorem dX5_event_36 : decode cX5_event 36 = .ok (.getfield 27, 3) := by decide +kernel
theorem dX5_event_39 : decode cX5_event 39 = .ok (.getfield 121, 3) := by decide +kernel
theorem dX5_event_42 : decode cX5_event 42 = .ok (.iload_n 1, 1) := by decide +kernel
theorem dX5_event_43 : decode cX5_event 43 = .ok (.iload_n 2, 1) := by decide +kernel
theorem dX5_event_44 : decode cX5_event 44 = .ok (.invokevirtual 134, 3) := by decide +kernel
theorem dX5_event_47 : decode cX5_event 47 = .ok (.ireturn, 1) := by decide +kernel
theorem dX5_meanAck_0 : decode cX5_meanAck 0 = .ok (.aload_n 0, 1) := by decide +kernel
theorem dX5_meanAck_1 : decode cX5_meanAck 1 = .ok (.getfield 27, 3) := by decide +kernel
theorem dX5_meanAck_4 : decode cX5_meanAck 4 = .ok (.getfield 137, 3) := by decide +kernel
theorem dX5_meanAck_7 : decode cX5_meanAck 7 = .ok (.ifCond .ne 5, 3) := by decide +kernel
theorem dX5_meanAck_10 : decode cX5_meanAck 10 = .ok (.fconst 0, 1) := by decide +kernel
theorem dX5_meanAck_11 : decode cX5_meanAck 11 = .ok (.freturn, 1) := by decide +kernel
theorem dX5_meanAck_12 : decode cX5_meanAck 12 = .ok (.aload_n 0, 1) := by decide +kernel
theorem dX5_meanAck_13 : decode cX5_meanAck 13 = .ok (.getfield 27, 3) := by decide +kernel
theorem dX5_meanAck_16 : decode cX5_meanAck 16 = .ok (.getfield 140, 3) := by decide +kernel
theorem dX5_meanAck_19 : decode cX5_meanAck 19 = .ok (.i2f, 1) := by decide +kernel
theorem dX5_meanAck_20 : decode cX5_meanAck 20 = .ok (.aload_n 0, 1) := by decide +kernel
theorem dX5_meanAck_21 : decode cX5_meanAck 21 = .ok (.getfield 27, 3) := by decide +kernel
theorem dX5_meanAck_24 : decode cX5_meanAck 24 = .ok (.getfield 137, 3) := by decide +kernel
theorem dX5_meanAck_27 : decode cX5_meanAck 27 = .ok (.i2f, 1) := by decide +kernel
theorem dX5_meanAck_28 : decode cX5_meanAck 28 = .ok (.fdiv, 1) := by decide +kernel
theorem dX5_meanAck_29 : decode cX5_meanAck 29 = .ok (.freturn, 1) := by decide +kernel
theorem dX5_worst_0 : decode cX5_worst 0 = .ok (.sipush (-20009), 3) := by decide +kernel
theorem dX5_worst_3 : decode cX5_worst 3 = .ok (.istore_n 1, 1) := by decide +kernel
theorem dX5_worst_4 : decode cX5_worst 4 = .ok (.iconst 0, 1) := by decide +kernel
theorem dX5_worst_5 : decode cX5_worst 5 = .ok (.istore_n 2, 1) := by decide +kernel
theorem dX5_worst_6 : decode cX5_worst 6 = .ok (.iconst 0, 1) := by decide +kernel
theorem dX5_worst_7 : decode cX5_worst 7 = .ok (.istore_n 3, 1) := by decide +kernel
theorem dX5_worst_8 : decode cX5_worst 8 = .ok (.iload_n 3, 1) := by decide +kernel
theorem dX5_worst_9 : decode cX5_worst 9 = .ok (.aload_n 0, 1) := by decide +kernel
theorem dX5_worst_10 : decode cX5_worst 10 = .ok (.getfield 27, 3) := by decide +kernel
theorem dX5_worst_13 : decode cX5_worst 13 = .ok (.getfield 66, 3) := by decide +kernel
theorem dX5_worst_16 : decode cX5_worst 16 = .ok (.if_icmp .ge 33, 3) := by decide +kernel
theorem dX5_worst_19 : decode cX5_worst 19 = .ok (.aload_n 0, 1) := by decide +kernel
theorem dX5_worst_20 : decode cX5_worst 20 = .ok (.getfield 27, 3) := by decide +kernel
theorem dX5_worst_23 : decode cX5_worst 23 = .ok (.getfield 121, 3) := by decide +kernel
theorem dX5_worst_26 : decode cX5_worst 26 = .ok (.iload_n 3, 1) := by decide +kernel
theorem dX5_worst_27 : decode cX5_worst 27 = .ok (.invokevirtual 143, 3) := by decide +kernel
theorem dX5_worst_30 : decode cX5_worst 30 = .ok (.istore 4, 2) := by decide +kernel
theorem dX5_worst_32 : decode cX5_worst 32 = .ok (.iload 4, 2) := by decide +kernel
theorem dX5_worst_34 : decode cX5_worst 34 = .ok (.iload_n 2, 1) := by decide +kernel
theorem dX5_worst_35 : decode cX5_worst 35 = .ok (.if_icmp .le 8, 3) := by decide +kernel
theorem dX5_worst_38 : decode cX5_worst 38 = .ok (.iload_n 3, 1) := by decide +kernel
theorem dX5_worst_39 : decode cX5_worst 39 = .ok (.istore_n 1, 1) := by decide +kernel
theorem dX5_worst_40 : decode cX5_worst 40 = .ok (.iload 4, 2) := by decide +kernel
theorem dX5_worst_42 : decode cX5_worst 42 = .ok (.istore_n 2, 1) := by decide +kernel
theorem dX5_worst_43 : decode cX5_worst 43 = .ok (.iinc 3 1, 3) := by decide +kernel
theorem dX5_worst_46 : decode cX5_worst 46 = .ok (.goto (-38), 3) := by decide +kernel
theorem dX5_worst_49 : decode cX5_worst 49 = .ok (.iload_n 1, 1) := by decide +kernel
theorem dX5_worst_50 : decode cX5_worst 50 = .ok (.ireturn, 1) := by decide +kernel
theorem dX5_replay_0 : decode cX5_replay 0 = .ok (.aload_n 0, 1) := by decide +kernel
theorem dX5_replay_1 : decode cX5_replay 1 = .ok (.getfield 27, 3) := by decide +kernel
theorem dX5_replay_4 : decode cX5_replay 4 = .ok (.iload_n 1, 1) := by decide +kernel
theorem dX5_replay_5 : decode cX5_replay 5 = .ok (.invokevirtual 55, 3) := by decide +kernel
theorem dX5_replay_8 : decode cX5_replay 8 = .ok (.ifCond .eq 14, 3) := by decide +kernel
theorem dX5_replay_11 : decode cX5_replay 11 = .ok (.iload_n 2, 1) := by decide +kernel
theorem dX5_replay_12 : decode cX5_replay 12 = .ok (.iconst 0, 1) := by decide +kernel
theorem dX5_replay_13 : decode cX5_replay 13 = .ok (.sipush 1000, 3) := by decide +kernel
theorem dX5_replay_16 : decode cX5_replay 16 = .ok (.invokestatic 59, 3) := by decide +kernel
theorem dX5_replay_19 : decode cX5_replay 19 = .ok (.ifCond .ne 7, 3) := by decide +kernel
theorem dX5_replay_22 : decode cX5_replay 22 = .ok (.sipush (-20001), 3) := by decide +kernel
theorem dX5_replay_25 : decode cX5_replay 25 = .ok (.ireturn, 1) := by decide +kernel
theorem dX5_replay_26 : decode cX5_replay 26 = .ok (.aload_n 0, 1) := by decide +kernel
theorem dX5_replay_27 : decode cX5_replay 27 = .ok (.getfield 27, 3) := by decide +kernel
theorem dX5_replay_30 : decode cX5_replay 30 = .ok (.getfield 146, 3) := by decide +kernel
theorem dX5_replay_33 : decode cX5_replay 33 = .ok (.iload_n 1, 1) := by decide +kernel
theorem dX5_replay_34 : decode cX5_replay 34 = .ok (.aaload, 1) := by decide +kernel
theorem dX5_replay_35 : decode cX5_replay 35 = .ok (.iload_n 2, 1) := by decide +kernel
theorem dX5_replay_36 : decode cX5_replay 36 = .ok (.invokevirtual 150, 3) := by decide +kernel
theorem dX5_replay_39 : decode cX5_replay 39 = .ok (.ireturn, 1) := by decide +kernel
theorem dX5_leastDeadband_0 : decode cX5_leastDeadband 0 = .ok (.aload_n 0, 1) := by decide +kernel
theorem dX5_leastDeadband_1 : decode cX5_leastDeadband 1 = .ok (.getfield 27, 3) := by decide +kernel
theorem dX5_leastDeadband_4 : decode cX5_leastDeadband 4 = .ok (.iload_n 1, 1) := by decide +kernel
theorem dX5_leastDeadband_5 : decode cX5_leastDeadband 5 = .ok (.invokevirtual 55, 3) := by decide +kernel
theorem dX5_leastDeadband_8 : decode cX5_leastDeadband 8 = .ok (.ifCond .eq 13, 3) := by decide +kernel
theorem dX5_leastDeadband_11 : decode cX5_leastDeadband 11 = .ok (.iload_n 2, 1) := by decide +kernel
theorem dX5_leastDeadband_12 : decode cX5_leastDeadband 12 = .ok (.iconst 0, 1) := by decide +kernel
theorem dX5_leastDeadband_13 : decode cX5_leastDeadband 13 = .ok (.bipush 40, 2) := by decide +kernel
theorem dX5_leastDeadband_15 : decode cX5_leastDeadband 15 = .ok (.invokestatic 59, 3) := by decide +kernel
theorem dX5_leastDeadband_18 : decode cX5_leastDeadband 18 = .ok (.ifCond .ne 7, 3) := by decide +kernel
theorem dX5_leastDeadband_21 : decode cX5_leastDeadband 21 = .ok (.sipush (-20001), 3) := by decide +kernel
theorem dX5_leastDeadband_24 : decode cX5_leastDeadband 24 = .ok (.ireturn, 1) := by decide +kernel
theorem dX5_leastDeadband_25 : decode cX5_leastDeadband 25 = .ok (.aload_n 0, 1) := by decide +kernel
theorem dX5_leastDeadband_26 : decode cX5_leastDeadband 26 = .ok (.getfield 27, 3) := by decide +kernel
theorem dX5_leastDeadband_29 : decode cX5_leastDeadband 29 = .ok (.getfield 146, 3) := by decide +kernel
theorem dX5_leastDeadband_32 : decode cX5_leastDeadband 32 = .ok (.iload_n 1, 1) := by decide +kernel
theorem dX5_leastDeadband_33 : decode cX5_leastDeadband 33 = .ok (.aaload, 1) := by decide +kernel
theorem dX5_leastDeadband_34 : decode cX5_leastDeadband 34 = .ok (.iload_n 2, 1) := by decide +kernel
theorem dX5_leastDeadband_35 : decode cX5_leastDeadband 35 = .ok (.invokevirtual 155, 3) := by decide +kernel
theorem dX5_leastDeadband_38 : decode cX5_leastDeadband 38 = .ok (.ireturn, 1) := by decide +kernel
theorem dX5_type_0 : decode cX5_type 0 = .ok (.iload_n 1, 1) := by decide +kernel
theorem dX5_type_1 : decode cX5_type 1 = .ok (.bipush 32, 2) := by decide +kernel
theorem dX5_type_3 : decode cX5_type 3 = .ok (.bipush 126, 2) := by decide +kernel
theorem dX5_type_5 : decode cX5_type 5 = .ok (.invokestatic 59, 3) := by decide +kernel
theorem dX5_type_8 : decode cX5_type 8 = .ok (.ifCond .ne 7, 3) := by decide +kernel
theorem dX5_type_11 : decode cX5_type 11 = .ok (.sipush (-20001), 3) := by decide +kernel
theorem dX5_type_14 : decode cX5_type 14 = .ok (.ireturn, 1) := by decide +kernel
theorem dX5_type_15 : decode cX5_type 15 = .ok (.aload_n 0, 1) := by decide +kernel
theorem dX5_type_16 : decode cX5_type 16 = .ok (.getfield 10, 3) := by decide +kernel
theorem dX5_type_19 : decode cX5_type 19 = .ok (.iload_n 1, 1) := by decide +kernel
theorem dX5_type_20 : decode cX5_type 20 = .ok (.i2c, 1) := by decide +kernel
theorem dX5_type_21 : decode cX5_type 21 = .ok (.invokevirtual 158, 3) := by decide +kernel
theorem dX5_type_24 : decode cX5_type 24 = .ok (.ireturn, 1) := by decide +kernel
theorem dX5_clear_0 : decode cX5_clear 0 = .ok (.aload_n 0, 1) := by decide +kernel
theorem dX5_clear_1 : decode cX5_clear 1 = .ok (.getfield 10, 3) := by decide +kernel
theorem dX5_clear_4 : decode cX5_clear 4 = .ok (.invokevirtual 162, 3) := by decide +kernel
theorem dX5_clear_7 : decode cX5_clear 7 = .ok (.ireturn, 1) := by decide +kernel
theorem dX5_run_0 : decode cX5_run 0 = .ok (.aload_n 0, 1) := by decide +kernel
theorem dX5_run_1 : decode cX5_run 1 = .ok (.getfield 10, 3) := by decide +kernel
theorem dX5_run_4 : decode cX5_run 4 = .ok (.invokevirtual 165, 3) := by decide +kernel
theorem dX5_run_7 : decode cX5_run 7 = .ok (.ifCond .ne 14, 3) := by decide +kernel
theorem dX5_run_10 : decode cX5_run 10 = .ok (.bipush (-100), 2) := by decide +kernel
theorem dX5_run_12 : decode cX5_run 12 = .ok (.aload_n 0, 1) := by decide +kernel
theorem dX5_run_13 : decode cX5_run 13 = .ok (.getfield 10, 3) := by decide +kernel
theorem dX5_run_16 : decode cX5_run 16 = .ok (.getfield 169, 3) := by decide +kernel
theorem dX5_run_19 : decode cX5_run 19 = .ok (.isub, 1) := by decide +kernel
theorem dX5_run_20 : decode cX5_run 20 = .ok (.ireturn, 1) := by decide +kernel
theorem dX5_run_21 : decode cX5_run 21 = .ok (.aload_n 0, 1) := by decide +kernel
theorem dX5_run_22 : decode cX5_run 22 = .ok (.invokevirtual 34, 3) := by decide +kernel
theorem dX5_run_25 : decode cX5_run 25 = .ok (.aload_n 0, 1) := by decide +kernel
theorem dX5_run_26 : decode cX5_run 26 = .ok (.getfield 10, 3) := by decide +kernel
theorem dX5_run_29 : decode cX5_run 29 = .ok (.getfield 172, 3) := by decide +kernel
theorem dX5_run_32 : decode cX5_run 32 = .ok (.istore_n 1, 1) := by decide +kernel
theorem dX5_run_33 : decode cX5_run 33 = .ok (.iconst 0, 1) := by decide +kernel
theorem dX5_run_34 : decode cX5_run 34 = .ok (.istore_n 2, 1) := by decide +kernel
theorem dX5_run_35 : decode cX5_run 35 = .ok (.iload_n 2, 1) := by decide +kernel
theorem dX5_run_36 : decode cX5_run 36 = .ok (.iload_n 1, 1) := by decide +kernel
theorem dX5_run_37 : decode cX5_run 37 = .ok (.if_icmp .ge 37, 3) := by decide +kernel
theorem dX5_run_40 : decode cX5_run 40 = .ok (.aload_n 0, 1) := by decide +kernel
theorem dX5_run_41 : decode cX5_run 41 = .ok (.iload_n 2, 1) := by decide +kernel
theorem dX5_run_42 : decode cX5_run 42 = .ok (.invokevirtual 175, 3) := by decide +kernel
theorem dX5_run_45 : decode cX5_run 45 = .ok (.invokestatic 108, 3) := by decide +kernel
theorem dX5_run_48 : decode cX5_run 48 = .ok (.ifCond .eq 20, 3) := by decide +kernel
theorem dX5_run_51 : decode cX5_run 51 = .ok (.aload_n 0, 1) := by decide +kernel
theorem dX5_run_52 : decode cX5_run 52 = .ok (.getfield 27, 3) := by decide +kernel
theorem dX5_run_55 : decode cX5_run 55 = .ok (.aload_n 0, 1) := by decide +kernel
theorem dX5_run_56 : decode cX5_run 56 = .ok (.getfield 31, 3) := by decide +kernel
theorem dX5_run_59 : decode cX5_run 59 = .ok (.invokevirtual 178, 3) := by decide +kernel
theorem dX5_run_62 : decode cX5_run 62 = .ok (.sipush (-1000), 3) := by decide +kernel
theorem dX5_run_65 : decode cX5_run 65 = .ok (.iload_n 2, 1) := by decide +kernel
theorem dX5_run_66 : decode cX5_run 66 = .ok (.isub, 1) := by decide +kernel
theorem dX5_run_67 : decode cX5_run 67 = .ok (.ireturn, 1) := by decide +kernel
theorem dX5_run_68 : decode cX5_run 68 = .ok (.iinc 2 1, 3) := by decide +kernel
theorem dX5_run_71 : decode cX5_run 71 = .ok (.goto (-36), 3) := by decide +kernel
theorem dX5_run_74 : decode cX5_run 74 = .ok (.aload_n 0, 1) := by decide +kernel
theorem dX5_run_75 : decode cX5_run 75 = .ok (.getfield 10, 3) := by decide +kernel
theorem dX5_run_78 : decode cX5_run 78 = .ok (.invokevirtual 162, 3) := by decide +kernel
theorem dX5_run_81 : decode cX5_run 81 = .ok (.pop, 1) := by decide +kernel
theorem dX5_run_82 : decode cX5_run 82 = .ok (.aload_n 0, 1) := by decide +kernel
theorem dX5_run_83 : decode cX5_run 83 = .ok (.iload_n 1, 1) := by decide +kernel
theorem dX5_run_84 : decode cX5_run 84 = .ok (.invokevirtual 41, 3) := by decide +kernel
theorem dX5_run_87 : decode cX5_run 87 = .ok (.ireturn, 1) := by decide +kernel
theorem dX5_undo_0 : decode cX5_undo 0 = .ok (.aload_n 0, 1) := by decide +kernel
theorem dX5_undo_1 : decode cX5_undo 1 = .ok (.getfield 182, 3) := by decide +kernel
theorem dX5_undo_4 : decode cX5_undo 4 = .ok (.ifCond .gt 7, 3) := by decide +kernel
theorem dX5_undo_7 : decode cX5_undo 7 = .ok (.sipush (-20009), 3) := by decide +kernel
theorem dX5_undo_10 : decode cX5_undo 10 = .ok (.ireturn, 1) := by decide +kernel
theorem dX5_undo_11 : decode cX5_undo 11 = .ok (.aload_n 0, 1) := by decide +kernel
theorem dX5_undo_12 : decode cX5_undo 12 = .ok (.dup, 1) := by decide +kernel
theorem dX5_undo_13 : decode cX5_undo 13 = .ok (.getfield 182, 3) := by decide +kernel
theorem dX5_undo_16 : decode cX5_undo 16 = .ok (.iconst 1, 1) := by decide +kernel
theorem dX5_undo_17 : decode cX5_undo 17 = .ok (.isub, 1) := by decide +kernel
theorem dX5_undo_18 : decode cX5_undo 18 = .ok (.putfield 182, 3) := by decide +kernel
theorem dX5_undo_21 : decode cX5_undo 21 = .ok (.aload_n 0, 1) := by decide +kernel
theorem dX5_undo_22 : decode cX5_undo 22 = .ok (.getfield 27, 3) := by decide +kernel
theorem dX5_undo_25 : decode cX5_undo 25 = .ok (.astore_n 1, 1) := by decide +kernel
theorem dX5_undo_26 : decode cX5_undo 26 = .ok (.aload_n 0, 1) := by decide +kernel
theorem dX5_undo_27 : decode cX5_undo 27 = .ok (.aload_n 0, 1) := by decide +kernel
theorem dX5_undo_28 : decode cX5_undo 28 = .ok (.getfield 22, 3) := by decide +kernel
theorem dX5_undo_31 : decode cX5_undo 31 = .ok (.aload_n 0, 1) := by decide +kernel
theorem dX5_undo_32 : decode cX5_undo 32 = .ok (.getfield 182, 3) := by decide +kernel
theorem dX5_undo_35 : decode cX5_undo 35 = .ok (.aaload, 1) := by decide +kernel
theorem dX5_undo_36 : decode cX5_undo 36 = .ok (.putfield 27, 3) := by decide +kernel
theorem dX5_undo_39 : decode cX5_undo 39 = .ok (.aload_n 0, 1) := by decide +kernel
theorem dX5_undo_40 : decode cX5_undo 40 = .ok (.getfield 22, 3) := by decide +kernel
theorem dX5_undo_43 : decode cX5_undo 43 = .ok (.aload_n 0, 1) := by decide +kernel
theorem dX5_undo_44 : decode cX5_undo 44 = .ok (.getfield 182, 3) := by decide +kernel
theorem dX5_undo_47 : decode cX5_undo 47 = .ok (.aload_n 1, 1) := by decide +kernel
theorem dX5_undo_48 : decode cX5_undo 48 = .ok (.aastore, 1) := by decide +kernel
theorem dX5_undo_49 : decode cX5_undo 49 = .ok (.aload_n 0, 1) := by decide +kernel
theorem dX5_undo_50 : decode cX5_undo 50 = .ok (.getfield 182, 3) := by decide +kernel
theorem dX5_undo_53 : decode cX5_undo 53 = .ok (.ireturn, 1) := by decide +kernel
theorem dX5_fingerprint_0 : decode cX5_fingerprint 0 = .ok (.ldc2_w 185, 3) := by decide +kernel
theorem dX5_fingerprint_3 : decode cX5_fingerprint 3 = .ok (.lstore_n 1, 1) := by decide +kernel
theorem dX5_fingerprint_4 : decode cX5_fingerprint 4 = .ok (.iconst 0, 1) := by decide +kernel
theorem dX5_fingerprint_5 : decode cX5_fingerprint 5 = .ok (.istore_n 3, 1) := by decide +kernel
theorem dX5_fingerprint_6 : decode cX5_fingerprint 6 = .ok (.iload_n 3, 1) := by decide +kernel
theorem dX5_fingerprint_7 : decode cX5_fingerprint 7 = .ok (.iconst 5, 1) := by decide +kernel
theorem dX5_fingerprint_8 : decode cX5_fingerprint 8 = .ok (.if_icmp .ge 22, 3) := by decide +kernel
theorem dX5_fingerprint_11 : decode cX5_fingerprint 11 = .ok (.ldc2_w 187, 3) := by decide +kernel
theorem dX5_fingerprint_14 : decode cX5_fingerprint 14 = .ok (.lload_n 1, 1) := by decide +kernel
theorem dX5_fingerprint_15 : decode cX5_fingerprint 15 = .ok (.lmul, 1) := by decide +kernel
theorem dX5_fingerprint_16 : decode cX5_fingerprint 16 = .ok (.aload_n 0, 1) := by decide +kernel
theorem dX5_fingerprint_17 : decode cX5_fingerprint 17 = .ok (.iload_n 3, 1) := by decide +kernel
theorem dX5_fingerprint_18 : decode cX5_fingerprint 18 = .ok (.invokevirtual 189, 3) := by decide +kernel
theorem dX5_fingerprint_21 : decode cX5_fingerprint 21 = .ok (.i2l, 1) := by decide +kernel
theorem dX5_fingerprint_22 : decode cX5_fingerprint 22 = .ok (.ladd, 1) := by decide +kernel
theorem dX5_fingerprint_23 : decode cX5_fingerprint 23 = .ok (.lstore_n 1, 1) := by decide +kernel
theorem dX5_fingerprint_24 : decode cX5_fingerprint 24 = .ok (.iinc 3 1, 3) := by decide +kernel
theorem dX5_fingerprint_27 : decode cX5_fingerprint 27 = .ok (.goto (-21), 3) := by decide +kernel
theorem dX5_fingerprint_30 : decode cX5_fingerprint 30 = .ok (.ldc2_w 187, 3) := by decide +kernel
theorem dX5_fingerprint_33 : decode cX5_fingerprint 33 = .ok (.lload_n 1, 1) := by decide +kernel
theorem dX5_fingerprint_34 : decode cX5_fingerprint 34 = .ok (.lmul, 1) := by decide +kernel
theorem dX5_fingerprint_35 : decode cX5_fingerprint 35 = .ok (.aload_n 0, 1) := by decide +kernel
theorem dX5_fingerprint_36 : decode cX5_fingerprint 36 = .ok (.invokevirtual 192, 3) := by decide +kernel
theorem dX5_fingerprint_39 : decode cX5_fingerprint 39 = .ok (.i2l, 1) := by decide +kernel
theorem dX5_fingerprint_40 : decode cX5_fingerprint 40 = .ok (.ladd, 1) := by decide +kernel
theorem dX5_fingerprint_41 : decode cX5_fingerprint 41 = .ok (.lstore_n 1, 1) := by decide +kernel
theorem dX5_fingerprint_42 : decode cX5_fingerprint 42 = .ok (.iconst 0, 1) := by decide +kernel
theorem dX5_fingerprint_43 : decode cX5_fingerprint 43 = .ok (.istore_n 3, 1) := by decide +kernel
theorem dX5_fingerprint_44 : decode cX5_fingerprint 44 = .ok (.iload_n 3, 1) := by decide +kernel
theorem dX5_fingerprint_45 : decode cX5_fingerprint 45 = .ok (.aload_n 0, 1) := by decide +kernel
theorem dX5_fingerprint_46 : decode cX5_fingerprint 46 = .ok (.invokevirtual 192, 3) := by decide +kernel
theorem dX5_fingerprint_49 : decode cX5_fingerprint 49 = .ok (.if_icmp .ge 40, 3) := by decide +kernel
theorem dX5_fingerprint_52 : decode cX5_fingerprint 52 = .ok (.iconst 0, 1) := by decide +kernel
theorem dX5_fingerprint_53 : decode cX5_fingerprint 53 = .ok (.istore 4, 2) := by decide +kernel
theorem dX5_fingerprint_55 : decode cX5_fingerprint 55 = .ok (.iload 4, 2) := by decide +kernel
theorem dX5_fingerprint_57 : decode cX5_fingerprint 57 = .ok (.bipush 16, 2) := by decide +kernel
theorem dX5_fingerprint_59 : decode cX5_fingerprint 59 = .ok (.if_icmp .ge 24, 3) := by decide +kernel
theorem dX5_fingerprint_62 : decode cX5_fingerprint 62 = .ok (.ldc2_w 187, 3) := by decide +kernel
theorem dX5_fingerprint_65 : decode cX5_fingerprint 65 = .ok (.lload_n 1, 1) := by decide +kernel
theorem dX5_fingerprint_66 : decode cX5_fingerprint 66 = .ok (.lmul, 1) := by decide +kernel
theorem dX5_fingerprint_67 : decode cX5_fingerprint 67 = .ok (.aload_n 0, 1) := by decide +kernel
theorem dX5_fingerprint_68 : decode cX5_fingerprint 68 = .ok (.iload_n 3, 1) := by decide +kernel
theorem dX5_fingerprint_69 : decode cX5_fingerprint 69 = .ok (.iload 4, 2) := by decide +kernel
theorem dX5_fingerprint_71 : decode cX5_fingerprint 71 = .ok (.invokevirtual 194, 3) := by decide +kernel
theorem dX5_fingerprint_74 : decode cX5_fingerprint 74 = .ok (.i2l, 1) := by decide +kernel
theorem dX5_fingerprint_75 : decode cX5_fingerprint 75 = .ok (.ladd, 1) := by decide +kernel
theorem dX5_fingerprint_76 : decode cX5_fingerprint 76 = .ok (.lstore_n 1, 1) := by decide +kernel
theorem dX5_fingerprint_77 : decode cX5_fingerprint 77 = .ok (.iinc 4 1, 3) := by decide +kernel
theorem dX5_fingerprint_80 : decode cX5_fingerprint 80 = .ok (.goto (-25), 3) := by decide +kernel
theorem dX5_fingerprint_83 : decode cX5_fingerprint 83 = .ok (.iinc 3 1, 3) := by decide +kernel
theorem dX5_fingerprint_86 : decode cX5_fingerprint 86 = .ok (.goto (-42), 3) := by decide +kernel
theorem dX5_fingerprint_89 : decode cX5_fingerprint 89 = .ok (.ldc2_w 187, 3) := by decide +kernel
theorem dX5_fingerprint_92 : decode cX5_fingerprint 92 = .ok (.lload_n 1, 1) := by decide +kernel
theorem dX5_fingerprint_93 : decode cX5_fingerprint 93 = .ok (.lmul, 1) := by decide +kernel
theorem dX5_fingerprint_94 : decode cX5_fingerprint 94 = .ok (.aload_n 0, 1) := by decide +kernel
theorem dX5_fingerprint_95 : decode cX5_fingerprint 95 = .ok (.invokevirtual 197, 3) := by decide +kernel
theorem dX5_fingerprint_98 : decode cX5_fingerprint 98 = .ok (.i2l, 1) := by decide +kernel
theorem dX5_fingerprint_99 : decode cX5_fingerprint 99 = .ok (.ladd, 1) := by decide +kernel
theorem dX5_fingerprint_100 : decode cX5_fingerprint 100 = .ok (.lstore_n 1, 1) := by decide +kernel
theorem dX5_fingerprint_101 : decode cX5_fingerprint 101 = .ok (.iconst 0, 1) := by decide +kernel
theorem dX5_fingerprint_102 : decode cX5_fingerprint 102 = .ok (.istore_n 3, 1) := by decide +kernel
theorem dX5_fingerprint_103 : decode cX5_fingerprint 103 = .ok (.iload_n 3, 1) := by decide +kernel
theorem dX5_fingerprint_104 : decode cX5_fingerprint 104 = .ok (.aload_n 0, 1) := by decide +kernel
theorem dX5_fingerprint_105 : decode cX5_fingerprint 105 = .ok (.getfield 27, 3) := by decide +kernel
theorem dX5_fingerprint_108 : decode cX5_fingerprint 108 = .ok (.getfield 121, 3) := by decide +kernel
theorem dX5_fingerprint_111 : decode cX5_fingerprint 111 = .ok (.invokevirtual 130, 3) := by decide +kernel
theorem dX5_fingerprint_114 : decode cX5_fingerprint 114 = .ok (.if_icmp .ge 39, 3) := by decide +kernel
theorem dX5_fingerprint_117 : decode cX5_fingerprint 117 = .ok (.iconst 0, 1) := by decide +kernel
theorem dX5_fingerprint_118 : decode cX5_fingerprint 118 = .ok (.istore 4, 2) := by decide +kernel
theorem dX5_fingerprint_120 : decode cX5_fingerprint 120 = .ok (.iload 4, 2) := by decide +kernel
theorem dX5_fingerprint_122 : decode cX5_fingerprint 122 = .ok (.iconst 3, 1) := by decide +kernel
theorem dX5_fingerprint_123 : decode cX5_fingerprint 123 = .ok (.if_icmp .ge 24, 3) := by decide +kernel
theorem dX5_fingerprint_126 : decode cX5_fingerprint 126 = .ok (.ldc2_w 187, 3) := by decide +kernel
theorem dX5_fingerprint_129 : decode cX5_fingerprint 129 = .ok (.lload_n 1, 1) := by decide +kernel
theorem dX5_fingerprint_130 : decode cX5_fingerprint 130 = .ok (.lmul, 1) := by decide +kernel
theorem dX5_fingerprint_131 : decode cX5_fingerprint 131 = .ok (.aload_n 0, 1) := by decide +kernel
theorem dX5_fingerprint_132 : decode cX5_fingerprint 132 = .ok (.iload_n 3, 1) := by decide +kernel
theorem dX5_fingerprint_133 : decode cX5_fingerprint 133 = .ok (.iload 4, 2) := by decide +kernel
theorem dX5_fingerprint_135 : decode cX5_fingerprint 135 = .ok (.invokevirtual 200, 3) := by decide +kernel
theorem dX5_fingerprint_138 : decode cX5_fingerprint 138 = .ok (.i2l, 1) := by decide +kernel
theorem dX5_fingerprint_139 : decode cX5_fingerprint 139 = .ok (.ladd, 1) := by decide +kernel
theorem dX5_fingerprint_140 : decode cX5_fingerprint 140 = .ok (.lstore_n 1, 1) := by decide +kernel
theorem dX5_fingerprint_141 : decode cX5_fingerprint 141 = .ok (.iinc 4 1, 3) := by decide +kernel
theorem dX5_fingerprint_144 : decode cX5_fingerprint 144 = .ok (.goto (-24), 3) := by decide +kernel
theorem dX5_fingerprint_147 : decode cX5_fingerprint 147 = .ok (.iinc 3 1, 3) := by decide +kernel
theorem dX5_fingerprint_150 : decode cX5_fingerprint 150 = .ok (.goto (-47), 3) := by decide +kernel
theorem dX5_fingerprint_153 : decode cX5_fingerprint 153 = .ok (.lload_n 1, 1) := by decide +kernel
theorem dX5_fingerprint_154 : decode cX5_fingerprint 154 = .ok (.lreturn, 1) := by decide +kernel
theorem dX5_isIn_0 : decode cX5_isIn 0 = .ok (.iload_n 0, 1) := by decide +kernel
theorem dX5_isIn_1 : decode cX5_isIn 1 = .ok (.iload_n 1, 1) := by decide +kernel
theorem dX5_isIn_2 : decode cX5_isIn 2 = .ok (.if_icmp .lt 12, 3) := by decide +kernel
theorem dX5_isIn_5 : decode cX5_isIn 5 = .ok (.iload_n 0, 1) := by decide +kernel
theorem dX5_isIn_6 : decode cX5_isIn 6 = .ok (.iload_n 2, 1) := by decide +kernel
theorem dX5_isIn_7 : decode cX5_isIn 7 = .ok (.if_icmp .gt 7, 3) := by decide +kernel
theorem dX5_isIn_10 : decode cX5_isIn 10 = .ok (.iconst 1, 1) := by decide +kernel
theorem dX5_isIn_11 : decode cX5_isIn 11 = .ok (.goto 4, 3) := by decide +kernel
theorem dX5_isIn_14 : decode cX5_isIn 14 = .ok (.iconst 0, 1) := by decide +kernel
theorem dX5_isIn_15 : decode cX5_isIn 15 = .ok (.ireturn, 1) := by decide +kernel
theorem dX5_isError_0 : decode cX5_isError 0 = .ok (.iload_n 0, 1) := by decide +kernel
theorem dX5_isError_1 : decode cX5_isError 1 = .ok (.sipush (-20001), 3) := by decide +kernel
theorem dX5_isError_4 : decode cX5_isError 4 = .ok (.if_icmp .gt 7, 3) := by decide +kernel
theorem dX5_isError_7 : decode cX5_isError 7 = .ok (.iconst 1, 1) := by decide +kernel
theorem dX5_isError_8 : decode cX5_isError 8 = .ok (.goto 4, 3) := by decide +kernel
theorem dX5_isError_11 : decode cX5_isError 11 = .ok (.iconst 0, 1) := by decide +kernel
theorem dX5_isError_12 : decode cX5_isError 12 = .ok (.ireturn, 1) := by decide +kernel
theorem dX5_noteBefore_0 : decode cX5_noteBefore 0 = .ok (.aload_n 0, 1) := by decide +kernel
theorem dX5_noteBefore_1 : decode cX5_noteBefore 1 = .ok (.getfield 31, 3) := by decide +kernel
theorem dX5_noteBefore_4 : decode cX5_noteBefore 4 = .ok (.aload_n 0, 1) := by decide +kernel
theorem dX5_noteBefore_5 : decode cX5_noteBefore 5 = .ok (.getfield 27, 3) := by decide +kernel
theorem dX5_noteBefore_8 : decode cX5_noteBefore 8 = .ok (.invokevirtual 178, 3) := by decide +kernel
theorem dX5_noteBefore_11 : decode cX5_noteBefore 11 = .ok (.return_, 1) := by decide +kernel
theorem dX5_settle_0 : decode cX5_settle 0 = .ok (.iload_n 1, 1) := by decide +kernel
theorem dX5_settle_1 : decode cX5_settle 1 = .ok (.invokestatic 108, 3) := by decide +kernel
theorem dX5_settle_4 : decode cX5_settle 4 = .ok (.ifCond .ne 7, 3) := by decide +kernel
theorem dX5_settle_7 : decode cX5_settle 7 = .ok (.aload_n 0, 1) := by decide +kernel
theorem dX5_settle_8 : decode cX5_settle 8 = .ok (.invokevirtual 203, 3) := by decide +kernel
theorem dX5_settle_11 : decode cX5_settle 11 = .ok (.iload_n 1, 1) := by decide +kernel
theorem dX5_settle_12 : decode cX5_settle 12 = .ok (.ireturn, 1) := by decide +kernel
theorem dX5_keepBefore_0 : decode cX5_keepBefore 0 = .ok (.aload_n 0, 1) := by decide +kernel
theorem dX5_keepBefore_1 : decode cX5_keepBefore 1 = .ok (.getfield 31, 3) := by decide +kernel
theorem dX5_keepBefore_4 : decode cX5_keepBefore 4 = .ok (.astore_n 1, 1) := by decide +kernel
theorem dX5_keepBefore_5 : decode cX5_keepBefore 5 = .ok (.aload_n 0, 1) := by decide +kernel
theorem dX5_keepBefore_6 : decode cX5_keepBefore 6 = .ok (.getfield 182, 3) := by decide +kernel
theorem dX5_keepBefore_9 : decode cX5_keepBefore 9 = .ok (.iconst 4, 1) := by decide +kernel
theorem dX5_keepBefore_10 : decode cX5_keepBefore 10 = .ok (.if_icmp .ge 37, 3) := by decide +kernel
theorem dX5_keepBefore_13 : decode cX5_keepBefore 13 = .ok (.aload_n 0, 1) := by decide +kernel
theorem dX5_keepBefore_14 : decode cX5_keepBefore 14 = .ok (.aload_n 0, 1) := by decide +kernel
theorem dX5_keepBefore_15 : decode cX5_keepBefore 15 = .ok (.getfield 22, 3) := by decide +kernel
theorem dX5_keepBefore_18 : decode cX5_keepBefore 18 = .ok (.aload_n 0, 1) := by decide +kernel
theorem dX5_keepBefore_19 : decode cX5_keepBefore 19 = .ok (.getfield 182, 3) := by decide +kernel
theorem dX5_keepBefore_22 : decode cX5_keepBefore 22 = .ok (.aaload, 1) := by decide +kernel
theorem dX5_keepBefore_23 : decode cX5_keepBefore 23 = .ok (.putfield 31, 3) := by decide +kernel
theorem dX5_keepBefore_26 : decode cX5_keepBefore 26 = .ok (.aload_n 0, 1) := by decide +kernel
theorem dX5_keepBefore_27 : decode cX5_keepBefore 27 = .ok (.getfield 22, 3) := by decide +kernel
theorem dX5_keepBefore_30 : decode cX5_keepBefore 30 = .ok (.aload_n 0, 1) := by decide +kernel
theorem dX5_keepBefore_31 : decode cX5_keepBefore 31 = .ok (.getfield 182, 3) := by decide +kernel
theorem dX5_keepBefore_34 : decode cX5_keepBefore 34 = .ok (.aload_n 1, 1) := by decide +kernel
theorem dX5_keepBefore_35 : decode cX5_keepBefore 35 = .ok (.aastore, 1) := by decide +kernel
theorem dX5_keepBefore_36 : decode cX5_keepBefore 36 = .ok (.aload_n 0, 1) := by decide +kernel
theorem dX5_keepBefore_37 : decode cX5_keepBefore 37 = .ok (.dup, 1) := by decide +kernel
theorem dX5_keepBefore_38 : decode cX5_keepBefore 38 = .ok (.getfield 182, 3) := by decide +kernel
theorem dX5_keepBefore_41 : decode cX5_keepBefore 41 = .ok (.iconst 1, 1) := by decide +kernel
theorem dX5_keepBefore_42 : decode cX5_keepBefore 42 = .ok (.iadd, 1) := by decide +kernel
theorem dX5_keepBefore_43 : decode cX5_keepBefore 43 = .ok (.putfield 182, 3) := by decide +kernel
theorem dX5_keepBefore_46 : decode cX5_keepBefore 46 = .ok (.return_, 1) := by decide +kernel
theorem dX5_keepBefore_47 : decode cX5_keepBefore 47 = .ok (.aload_n 0, 1) := by decide +kernel
theorem dX5_keepBefore_48 : decode cX5_keepBefore 48 = .ok (.aload_n 0, 1) := by decide +kernel
theorem dX5_keepBefore_49 : decode cX5_keepBefore 49 = .ok (.getfield 22, 3) := by decide +kernel
theorem dX5_keepBefore_52 : decode cX5_keepBefore 52 = .ok (.iconst 0, 1) := by decide +kernel
theorem dX5_keepBefore_53 : decode cX5_keepBefore 53 = .ok (.aaload, 1) := by decide +kernel
theorem dX5_keepBefore_54 : decode cX5_keepBefore 54 = .ok (.putfield 31, 3) := by decide +kernel
theorem dX5_keepBefore_57 : decode cX5_keepBefore 57 = .ok (.iconst 1, 1) := by decide +kernel
theorem dX5_keepBefore_58 : decode cX5_keepBefore 58 = .ok (.istore_n 2, 1) := by decide +kernel
theorem dX5_keepBefore_59 : decode cX5_keepBefore 59 = .ok (.iload_n 2, 1) := by decide +kernel
theorem dX5_keepBefore_60 : decode cX5_keepBefore 60 = .ok (.iconst 4, 1) := by decide +kernel
theorem dX5_keepBefore_61 : decode cX5_keepBefore 61 = .ok (.if_icmp .ge 23, 3) := by decide +kernel
theorem dX5_keepBefore_64 : decode cX5_keepBefore 64 = .ok (.aload_n 0, 1) := by decide +kernel
theorem dX5_keepBefore_65 : decode cX5_keepBefore 65 = .ok (.getfield 22, 3) := by decide +kernel
theorem dX5_keepBefore_68 : decode cX5_keepBefore 68 = .ok (.iload_n 2, 1) := by decide +kernel
theorem dX5_keepBefore_69 : decode cX5_keepBefore 69 = .ok (.iconst 1, 1) := by decide +kernel
theorem dX5_keepBefore_70 : decode cX5_keepBefore 70 = .ok (.isub, 1) := by decide +kernel
theorem dX5_keepBefore_71 : decode cX5_keepBefore 71 = .ok (.aload_n 0, 1) := by decide +kernel
theorem dX5_keepBefore_72 : decode cX5_keepBefore 72 = .ok (.getfield 22, 3) := by decide +kernel
theorem dX5_keepBefore_75 : decode cX5_keepBefore 75 = .ok (.iload_n 2, 1) := by decide +kernel
theorem dX5_keepBefore_76 : decode cX5_keepBefore 76 = .ok (.aaload, 1) := by decide +kernel
theorem dX5_keepBefore_77 : decode cX5_keepBefore 77 = .ok (.aastore, 1) := by decide +kernel
theorem dX5_keepBefore_78 : decode cX5_keepBefore 78 = .ok (.iinc 2 1, 3) := by decide +kernel
theorem dX5_keepBefore_81 : decode cX5_keepBefore 81 = .ok (.goto (-22), 3) := by decide +kernel
theorem dX5_keepBefore_84 : decode cX5_keepBefore 84 = .ok (.aload_n 0, 1) := by decide +kernel
theorem dX5_keepBefore_85 : decode cX5_keepBefore 85 = .ok (.getfield 22, 3) := by decide +kernel
theorem dX5_keepBefore_88 : decode cX5_keepBefore 88 = .ok (.iconst 3, 1) := by decide +kernel
theorem dX5_keepBefore_89 : decode cX5_keepBefore 89 = .ok (.aload_n 1, 1) := by decide +kernel
theorem dX5_keepBefore_90 : decode cX5_keepBefore 90 = .ok (.aastore, 1) := by decide +kernel
theorem dX5_keepBefore_91 : decode cX5_keepBefore 91 = .ok (.return_, 1) := by decide +kernel
theorem dX5_carryOut_0 : decode cX5_carryOut 0 = .ok (.aload_n 0, 1) := by decide +kernel
theorem dX5_carryOut_1 : decode cX5_carryOut 1 = .ok (.getfield 10, 3) := by decide +kernel
theorem dX5_carryOut_4 : decode cX5_carryOut 4 = .ok (.getfield 206, 3) := by decide +kernel
theorem dX5_carryOut_7 : decode cX5_carryOut 7 = .ok (.iload_n 1, 1) := by decide +kernel
theorem dX5_carryOut_8 : decode cX5_carryOut 8 = .ok (.iaload, 1) := by decide +kernel
theorem dX5_carryOut_9 : decode cX5_carryOut 9 = .ok (.istore_n 2, 1) := by decide +kernel
theorem dX5_carryOut_10 : decode cX5_carryOut 10 = .ok (.aload_n 0, 1) := by decide +kernel
theorem dX5_carryOut_11 : decode cX5_carryOut 11 = .ok (.getfield 10, 3) := by decide +kernel
theorem dX5_carryOut_14 : decode cX5_carryOut 14 = .ok (.getfield 209, 3) := by decide +kernel
theorem dX5_carryOut_17 : decode cX5_carryOut 17 = .ok (.iload_n 1, 1) := by decide +kernel
theorem dX5_carryOut_18 : decode cX5_carryOut 18 = .ok (.iaload, 1) := by decide +kernel
theorem dX5_carryOut_19 : decode cX5_carryOut 19 = .ok (.istore_n 3, 1) := by decide +kernel
theorem dX5_carryOut_20 : decode cX5_carryOut 20 = .ok (.aload_n 0, 1) := by decide +kernel
theorem dX5_carryOut_21 : decode cX5_carryOut 21 = .ok (.getfield 10, 3) := by decide +kernel
theorem dX5_carryOut_24 : decode cX5_carryOut 24 = .ok (.getfield 212, 3) := by decide +kernel
theorem dX5_carryOut_27 : decode cX5_carryOut 27 = .ok (.iload_n 1, 1) := by decide +kernel
theorem dX5_carryOut_28 : decode cX5_carryOut 28 = .ok (.iaload, 1) := by decide +kernel
theorem dX5_carryOut_29 : decode cX5_carryOut 29 = .ok (.tableswitch 69 0 3 #[31, 41, 50, 60], 31) := by decide +kernel
theorem dX5_carryOut_60 : decode cX5_carryOut 60 = .ok (.aload_n 0, 1) := by decide +kernel
theorem dX5_carryOut_61 : decode cX5_carryOut 61 = .ok (.getfield 27, 3) := by decide +kernel
theorem dX5_carryOut_64 : decode cX5_carryOut 64 = .ok (.iload_n 2, 1) := by decide +kernel
theorem dX5_carryOut_65 : decode cX5_carryOut 65 = .ok (.iload_n 3, 1) := by decide +kernel
theorem dX5_carryOut_66 : decode cX5_carryOut 66 = .ok (.invokevirtual 52, 3) := by decide +kernel
theorem dX5_carryOut_69 : decode cX5_carryOut 69 = .ok (.ireturn, 1) := by decide +kernel
theorem dX5_carryOut_70 : decode cX5_carryOut 70 = .ok (.aload_n 0, 1) := by decide +kernel
theorem dX5_carryOut_71 : decode cX5_carryOut 71 = .ok (.getfield 27, 3) := by decide +kernel
theorem dX5_carryOut_74 : decode cX5_carryOut 74 = .ok (.iload_n 2, 1) := by decide +kernel
theorem dX5_carryOut_75 : decode cX5_carryOut 75 = .ok (.invokevirtual 101, 3) := by decide +kernel
theorem dX5_carryOut_78 : decode cX5_carryOut 78 = .ok (.ireturn, 1) := by decide +kernel
theorem dX5_carryOut_79 : decode cX5_carryOut 79 = .ok (.aload_n 0, 1) := by decide +kernel
theorem dX5_carryOut_80 : decode cX5_carryOut 80 = .ok (.getfield 27, 3) := by decide +kernel
theorem dX5_carryOut_83 : decode cX5_carryOut 83 = .ok (.iload_n 2, 1) := by decide +kernel
theorem dX5_carryOut_84 : decode cX5_carryOut 84 = .ok (.iload_n 3, 1) := by decide +kernel
theorem dX5_carryOut_85 : decode cX5_carryOut 85 = .ok (.invokevirtual 111, 3) := by decide +kernel
theorem dX5_carryOut_88 : decode cX5_carryOut 88 = .ok (.ireturn, 1) := by decide +kernel
theorem dX5_carryOut_89 : decode cX5_carryOut 89 = .ok (.aload_n 0, 1) := by decide +kernel
theorem dX5_carryOut_90 : decode cX5_carryOut 90 = .ok (.getfield 27, 3) := by decide +kernel
theorem dX5_carryOut_93 : decode cX5_carryOut 93 = .ok (.iload_n 2, 1) := by decide +kernel
theorem dX5_carryOut_94 : decode cX5_carryOut 94 = .ok (.invokevirtual 76, 3) := by decide +kernel
theorem dX5_carryOut_97 : decode cX5_carryOut 97 = .ok (.ireturn, 1) := by decide +kernel
theorem dX5_carryOut_98 : decode cX5_carryOut 98 = .ok (.aload_n 0, 1) := by decide +kernel
theorem dX5_carryOut_99 : decode cX5_carryOut 99 = .ok (.getfield 27, 3) := by decide +kernel
theorem dX5_carryOut_102 : decode cX5_carryOut 102 = .ok (.iload_n 2, 1) := by decide +kernel
theorem dX5_carryOut_103 : decode cX5_carryOut 103 = .ok (.invokevirtual 70, 3) := by decide +kernel
theorem dX5_carryOut_106 : decode cX5_carryOut 106 = .ok (.ireturn, 1) := by decide +kernel
end
section
theorem dX6_init_0 : decode cX6_init 0 = .ok (.aload_n 0, 1) := by decide +kernel
theorem dX6_init_1 : decode cX6_init 1 = .ok (.invokespecial 1, 3) := by decide +kernel
theorem dX6_init_4 : decode cX6_init 4 = .ok (.aload_n 0, 1) := by decide +kernel
theorem dX6_init_5 : decode cX6_init 5 = .ok (.sipush 1080, 3) := by decide +kernel
theorem dX6_init_8 : decode cX6_init 8 = .ok (.newarray .int, 2) := by decide +kernel
theorem dX6_init_10 : decode cX6_init 10 = .ok (.putfield 7, 3) := by decide +kernel
theorem dX6_init_13 : decode cX6_init 13 = .ok (.aload_n 0, 1) := by decide +kernel
theorem dX6_init_14 : decode cX6_init 14 = .ok (.sipush 1080, 3) := by decide +kernel
theorem dX6_init_17 : decode cX6_init 17 = .ok (.newarray .int, 2) := by decide +kernel
theorem dX6_init_19 : decode cX6_init 19 = .ok (.putfield 13, 3) := by decide +kernel
theorem dX6_init_22 : decode cX6_init 22 = .ok (.aload_n 0, 1) := by decide +kernel
theorem dX6_init_23 : decode cX6_init 23 = .ok (.sipush 4320, 3) := by decide +kernel
theorem dX6_init_26 : decode cX6_init 26 = .ok (.newarray .int, 2) := by decide +kernel
theorem dX6_init_28 : decode cX6_init 28 = .ok (.putfield 16, 3) := by decide +kernel
theorem dX6_init_31 : decode cX6_init 31 = .ok (.aload_n 0, 1) := by decide +kernel
theorem dX6_init_32 : decode cX6_init 32 = .ok (.bipush 16, 2) := by decide +kernel
theorem dX6_init_34 : decode cX6_init 34 = .ok (.newarray .int, 2) := by decide +kernel
theorem dX6_init_36 : decode cX6_init 36 = .ok (.putfield 19, 3) := by decide +kernel
theorem dX6_init_39 : decode cX6_init 39 = .ok (.aload_n 0, 1) := by decide +kernel
theorem dX6_init_40 : decode cX6_init 40 = .ok (.bipush 80, 2) := by decide +kernel
theorem dX6_init_42 : decode cX6_init 42 = .ok (.newarray .int, 2) := by decide +kernel
theorem dX6_init_44 : decode cX6_init 44 = .ok (.putfield 22, 3) := by decide +kernel
theorem dX6_init_47 : decode cX6_init 47 = .ok (.aload_n 0, 1) := by decide +kernel
theorem dX6_init_48 : decode cX6_init 48 = .ok (.bipush 63, 2) := by decide +kernel
theorem dX6_init_50 : decode cX6_init 50 = .ok (.newarray .int, 2) := by decide +kernel
theorem dX6_init_52 : decode cX6_init 52 = .ok (.putfield 25, 3) := by decide +kernel
theorem dX6_init_55 : decode cX6_init 55 = .ok (.aload_n 0, 1) := by decide +kernel
theorem dX6_init_56 : decode cX6_init 56 = .ok (.getfield 7, 3) := by decide +kernel
theorem dX6_init_59 : decode cX6_init 59 = .ok (.iconst 5, 1) := by decide +kernel
theorem dX6_init_60 : decode cX6_init 60 = .ok (.bipush 10, 2) := by decide +kernel
theorem dX6_init_62 : decode cX6_init 62 = .ok (.iastore, 1) := by decide +kernel
theorem dX6_init_63 : decode cX6_init 63 = .ok (.aload_n 0, 1) := by decide +kernel
theorem dX6_init_64 : decode cX6_init 64 = .ok (.getfield 7, 3) := by decide +kernel
theorem dX6_init_67 : decode cX6_init 67 = .ok (.bipush 6, 2) := by decide +kernel
theorem dX6_init_69 : decode cX6_init 69 = .ok (.iconst 5, 1) := by decide +kernel
theorem dX6_init_70 : decode cX6_init 70 = .ok (.iastore, 1) := by decide +kernel
theorem dX6_init_71 : decode cX6_init 71 = .ok (.aload_n 0, 1) := by decide +kernel
theorem dX6_init_72 : decode cX6_init 72 = .ok (.getfield 7, 3) := by decide +kernel
theorem dX6_init_75 : decode cX6_init 75 = .ok (.bipush 7, 2) := by decide +kernel
theorem dX6_init_77 : decode cX6_init 77 = .ok (.iconst 2, 1) := by decide +kernel
theorem dX6_init_78 : decode cX6_init 78 = .ok (.iastore, 1) := by decide +kernel
theorem dX6_init_79 : decode cX6_init 79 = .ok (.return_, 1) := by decide +kernel
theorem dX6_in_0 : decode cX6_in 0 = .ok (.iload_n 0, 1) := by decide +kernel
theorem dX6_in_1 : decode cX6_in 1 = .ok (.iload_n 1, 1) := by decide +kernel
theorem dX6_in_2 : decode cX6_in 2 = .ok (.if_icmp .lt 12, 3) := by decide +kernel
theorem dX6_in_5 : decode cX6_in 5 = .ok (.iload_n 0, 1) := by decide +kernel
theorem dX6_in_6 : decode cX6_in 6 = .ok (.iload_n 2, 1) := by decide +kernel
theorem dX6_in_7 : decode cX6_in 7 = .ok (.if_icmp .gt 7, 3) := by decide +kernel
theorem dX6_in_10 : decode cX6_in 10 = .ok (.iconst 1, 1) := by decide +kernel
theorem dX6_in_11 : decode cX6_in 11 = .ok (.goto 4, 3) := by decide +kernel
theorem dX6_in_14 : decode cX6_in 14 = .ok (.iconst 0, 1) := by decide +kernel
theorem dX6_in_15 : decode cX6_in 15 = .ok (.ireturn, 1) := by decide +kernel
theorem dX6_keeps_0 : decode cX6_keeps 0 = .ok (.aload_n 0, 1) := by decide +kernel
theorem dX6_keeps_1 : decode cX6_keeps 1 = .ok (.getfield 28, 3) := by decide +kernel
theorem dX6_keeps_4 : decode cX6_keeps 4 = .ok (.iconst 4, 1) := by decide +kernel
theorem dX6_keeps_5 : decode cX6_keeps 5 = .ok (.if_icmp .ne 44, 3) := by decide +kernel
theorem dX6_keeps_8 : decode cX6_keeps 8 = .ok (.iconst 0, 1) := by decide +kernel
theorem dX6_keeps_9 : decode cX6_keeps 9 = .ok (.istore_n 2, 1) := by decide +kernel
theorem dX6_keeps_10 : decode cX6_keeps 10 = .ok (.iload_n 2, 1) := by decide +kernel
theorem dX6_keeps_11 : decode cX6_keeps 11 = .ok (.sipush 3240, 3) := by decide +kernel
theorem dX6_keeps_14 : decode cX6_keeps 14 = .ok (.if_icmp .ge 25, 3) := by decide +kernel
theorem dX6_keeps_17 : decode cX6_keeps 17 = .ok (.aload_n 0, 1) := by decide +kernel
theorem dX6_keeps_18 : decode cX6_keeps 18 = .ok (.getfield 16, 3) := by decide +kernel
theorem dX6_keeps_21 : decode cX6_keeps 21 = .ok (.iload_n 2, 1) := by decide +kernel
theorem dX6_keeps_22 : decode cX6_keeps 22 = .ok (.aload_n 0, 1) := by decide +kernel
theorem dX6_keeps_23 : decode cX6_keeps 23 = .ok (.getfield 16, 3) := by decide +kernel
theorem dX6_keeps_26 : decode cX6_keeps 26 = .ok (.iload_n 2, 1) := by decide +kernel
theorem dX6_keeps_27 : decode cX6_keeps 27 = .ok (.sipush 1080, 3) := by decide +kernel
theorem dX6_keeps_30 : decode cX6_keeps 30 = .ok (.iadd, 1) := by decide +kernel
theorem dX6_keeps_31 : decode cX6_keeps 31 = .ok (.iaload, 1) := by decide +kernel
theorem dX6_keeps_32 : decode cX6_keeps 32 = .ok (.iastore, 1) := by decide +kernel
theorem dX6_keeps_33 : decode cX6_keeps 33 = .ok (.iinc 2 1, 3) := by decide +kernel
theorem dX6_keeps_36 : decode cX6_keeps 36 = .ok (.goto (-26), 3) := by decide +kernel
theorem dX6_keeps_39 : decode cX6_keeps 39 = .ok (.aload_n 0, 1) := by decide +kernel
theorem dX6_keeps_40 : decode cX6_keeps 40 = .ok (.dup, 1) := by decide +kernel
theorem dX6_keeps_41 : decode cX6_keeps 41 = .ok (.getfield 28, 3) := by decide +kernel
theorem dX6_keeps_44 : decode cX6_keeps 44 = .ok (.iconst 1, 1) := by decide +kernel
theorem dX6_keeps_45 : decode cX6_keeps 45 = .ok (.isub, 1) := by decide +kernel
theorem dX6_keeps_46 : decode cX6_keeps 46 = .ok (.putfield 28, 3) := by decide +kernel
theorem dX6_keeps_49 : decode cX6_keeps 49 = .ok (.iconst 0, 1) := by decide +kernel
theorem dX6_keeps_50 : decode cX6_keeps 50 = .ok (.istore_n 2, 1) := by decide +kernel
theorem dX6_keeps_51 : decode cX6_keeps 51 = .ok (.iload_n 2, 1) := by decide +kernel
theorem dX6_keeps_52 : decode cX6_keeps 52 = .ok (.sipush 1080, 3) := by decide +kernel
theorem dX6_keeps_55 : decode cX6_keeps 55 = .ok (.if_icmp .ge 27, 3) := by decide +kernel
theorem dX6_keeps_58 : decode cX6_keeps 58 = .ok (.aload_n 0, 1) := by decide +kernel
theorem dX6_keeps_59 : decode cX6_keeps 59 = .ok (.getfield 16, 3) := by decide +kernel
theorem dX6_keeps_62 : decode cX6_keeps 62 = .ok (.sipush 1080, 3) := by decide +kernel
theorem dX6_keeps_65 : decode cX6_keeps 65 = .ok (.aload_n 0, 1) := by decide +kernel
theorem dX6_keeps_66 : decode cX6_keeps 66 = .ok (.getfield 28, 3) := by decide +kernel
theorem dX6_keeps_69 : decode cX6_keeps 69 = .ok (.imul, 1) := by decide +kernel
theorem dX6_keeps_70 : decode cX6_keeps 70 = .ok (.iload_n 2, 1) := by decide +kernel
theorem dX6_keeps_71 : decode cX6_keeps 71 = .ok (.iadd, 1) := by decide +kernel
theorem dX6_keeps_72 : decode cX6_keeps 72 = .ok (.aload_n 1, 1) := by decide +kernel
theorem dX6_keeps_73 : decode cX6_keeps 73 = .ok (.iload_n 2, 1) := by decide +kernel
theorem dX6_keeps_74 : decode cX6_keeps 74 = .ok (.iaload, 1) := by decide +kernel
theorem dX6_keeps_75 : decode cX6_keeps 75 = .ok (.iastore, 1) := by decide +kernel
theorem dX6_keeps_76 : decode cX6_keeps 76 = .ok (.iinc 2 1, 3) := by decide +kernel
theorem dX6_keeps_79 : decode cX6_keeps 79 = .ok (.goto (-28), 3) := by decide +kernel
theorem dX6_keeps_82 : decode cX6_keeps 82 = .ok (.aload_n 0, 1) := by decide +kernel
theorem dX6_keeps_83 : decode cX6_keeps 83 = .ok (.dup, 1) := by decide +kernel
theorem dX6_keeps_84 : decode cX6_keeps 84 = .ok (.getfield 28, 3) := by decide +kernel
theorem dX6_keeps_87 : decode cX6_keeps 87 = .ok (.iconst 1, 1) := by decide +kernel
theorem dX6_keeps_88 : decode cX6_keeps 88 = .ok (.iadd, 1) := by decide +kernel
theorem dX6_keeps_89 : decode cX6_keeps 89 = .ok (.putfield 28, 3) := by decide +kernel
theorem dX6_keeps_92 : decode cX6_keeps 92 = .ok (.return_, 1) := by decide +kernel
theorem dX6_copies_0 : decode cX6_copies 0 = .ok (.iconst 0, 1) := by decide +kernel
theorem dX6_copies_1 : decode cX6_copies 1 = .ok (.istore_n 2, 1) := by decide +kernel
theorem dX6_copies_2 : decode cX6_copies 2 = .ok (.iload_n 2, 1) := by decide +kernel
theorem dX6_copies_3 : decode cX6_copies 3 = .ok (.sipush 1080, 3) := by decide +kernel
theorem dX6_copies_6 : decode cX6_copies 6 = .ok (.if_icmp .ge 15, 3) := by decide +kernel
theorem dX6_copies_9 : decode cX6_copies 9 = .ok (.aload_n 1, 1) := by decide +kernel
theorem dX6_copies_10 : decode cX6_copies 10 = .ok (.iload_n 2, 1) := by decide +kernel
theorem dX6_copies_11 : decode cX6_copies 11 = .ok (.aload_n 0, 1) := by decide +kernel
theorem dX6_copies_12 : decode cX6_copies 12 = .ok (.iload_n 2, 1) := by decide +kernel
theorem dX6_copies_13 : decode cX6_copies 13 = .ok (.iaload, 1) := by decide +kernel
theorem dX6_copies_14 : decode cX6_copies 14 = .ok (.iastore, 1) := by decide +kernel
theorem dX6_copies_15 : decode cX6_copies 15 = .ok (.iinc 2 1, 3) := by decide +kernel
theorem dX6_copies_18 : decode cX6_copies 18 = .ok (.goto (-16), 3) := by decide +kernel
theorem dX6_copies_21 : decode cX6_copies 21 = .ok (.return_, 1) := by decide +kernel
theorem dX6_of_0 : decode cX6_of 0 = .ok (.aload_n 0, 1) := by decide +kernel
theorem dX6_of_1 : decode cX6_of 1 = .ok (.getfield 7, 3) := by decide +kernel
theorem dX6_of_4 : decode cX6_of 4 = .ok (.sipush 176, 3) := by decide +kernel
theorem dX6_of_7 : decode cX6_of 7 = .ok (.bipush 56, 2) := by decide +kernel
theorem dX6_of_9 : decode cX6_of 9 = .ok (.iload_n 1, 1) := by decide +kernel
theorem dX6_of_10 : decode cX6_of 10 = .ok (.imul, 1) := by decide +kernel
theorem dX6_of_11 : decode cX6_of 11 = .ok (.iadd, 1) := by decide +kernel
theorem dX6_of_12 : decode cX6_of 12 = .ok (.iload_n 2, 1) := by decide +kernel
theorem dX6_of_13 : decode cX6_of 13 = .ok (.iadd, 1) := by decide +kernel
theorem dX6_of_14 : decode cX6_of 14 = .ok (.iaload, 1) := by decide +kernel
theorem dX6_of_15 : decode cX6_of 15 = .ok (.ireturn, 1) := by decide +kernel
theorem dX6_puts_0 : decode cX6_puts 0 = .ok (.aload_n 0, 1) := by decide +kernel
theorem dX6_puts_1 : decode cX6_puts 1 = .ok (.getfield 7, 3) := by decide +kernel
theorem dX6_puts_4 : decode cX6_puts 4 = .ok (.sipush 176, 3) := by decide +kernel
theorem dX6_puts_7 : decode cX6_puts 7 = .ok (.bipush 56, 2) := by decide +kernel
theorem dX6_puts_9 : decode cX6_puts 9 = .ok (.iload_n 1, 1) := by decide +kernel
theorem dX6_puts_10 : decode cX6_puts 10 = .ok (.imul, 1) := by decide +kernel
theorem dX6_puts_11 : decode cX6_puts 11 = .ok (.iadd, 1) := by decide +kernel
theorem dX6_puts_12 : decode cX6_puts 12 = .ok (.iload_n 2, 1) := by decide +kernel
theorem dX6_puts_13 : decode cX6_puts 13 = .ok (.iadd, 1) := by decide +kernel
theorem dX6_puts_14 : decode cX6_puts 14 = .ok (.iload_n 3, 1) := by decide +kernel
theorem dX6_puts_15 : decode cX6_puts 15 = .ok (.iastore, 1) := by decide +kernel
theorem dX6_puts_16 : decode cX6_puts 16 = .ok (.return_, 1) := by decide +kernel
theorem dX6_isPoint_0 : decode cX6_isPoint 0 = .ok (.iload_n 1, 1) := by decide +kernel
theorem dX6_isPoint_1 : decode cX6_isPoint 1 = .ok (.iconst 0, 1) := by decide +kernel
theorem dX6_isPoint_2 : decode cX6_isPoint 2 = .ok (.aload_n 0, 1) := by decide +kernel
theorem dX6_isPoint_3 : decode cX6_isPoint 3 = .ok (.getfield 7, 3) := by decide +kernel
theorem dX6_isPoint_6 : decode cX6_isPoint 6 = .ok (.iconst 0, 1) := by decide +kernel
theorem dX6_isPoint_7 : decode cX6_isPoint 7 = .ok (.iaload, 1) := by decide +kernel
theorem dX6_isPoint_8 : decode cX6_isPoint 8 = .ok (.iconst 1, 1) := by decide +kernel
theorem dX6_isPoint_9 : decode cX6_isPoint 9 = .ok (.isub, 1) := by decide +kernel
theorem dX6_isPoint_10 : decode cX6_isPoint 10 = .ok (.invokestatic 32, 3) := by decide +kernel
theorem dX6_isPoint_13 : decode cX6_isPoint 13 = .ok (.ireturn, 1) := by decide +kernel
theorem dX6_isValue_0 : decode cX6_isValue 0 = .ok (.iload_n 0, 1) := by decide +kernel
theorem dX6_isValue_1 : decode cX6_isValue 1 = .ok (.sipush (-10000), 3) := by decide +kernel
theorem dX6_isValue_4 : decode cX6_isValue 4 = .ok (.sipush 10000, 3) := by decide +kernel
theorem dX6_isValue_7 : decode cX6_isValue 7 = .ok (.invokestatic 32, 3) := by decide +kernel
theorem dX6_isValue_10 : decode cX6_isValue 10 = .ok (.ireturn, 1) := by decide +kernel
theorem dX6_happens_0 : decode cX6_happens 0 = .ok (.bipush 80, 2) := by decide +kernel
theorem dX6_happens_2 : decode cX6_happens 2 = .ok (.iconst 3, 1) := by decide +kernel
theorem dX6_happens_3 : decode cX6_happens 3 = .ok (.aload_n 0, 1) := by decide +kernel
theorem dX6_happens_4 : decode cX6_happens 4 = .ok (.getfield 7, 3) := by decide +kernel
theorem dX6_happens_7 : decode cX6_happens 7 = .ok (.bipush 9, 2) := by decide +kernel
theorem dX6_happens_9 : decode cX6_happens 9 = .ok (.iaload, 1) := by decide +kernel
theorem dX6_happens_10 : decode cX6_happens 10 = .ok (.bipush 30, 2) := by decide +kernel
theorem dX6_happens_12 : decode cX6_happens 12 = .ok (.irem, 1) := by decide +kernel
theorem dX6_happens_13 : decode cX6_happens 13 = .ok (.imul, 1) := by decide +kernel
theorem dX6_happens_14 : decode cX6_happens 14 = .ok (.iadd, 1) := by decide +kernel
theorem dX6_happens_15 : decode cX6_happens 15 = .ok (.istore_n 3, 1) := by decide +kernel
theorem dX6_happens_16 : decode cX6_happens 16 = .ok (.aload_n 0, 1) := by decide +kernel
theorem dX6_happens_17 : decode cX6_happens 17 = .ok (.getfield 7, 3) := by decide +kernel
theorem dX6_happens_20 : decode cX6_happens 20 = .ok (.iload_n 3, 1) := by decide +kernel
theorem dX6_happens_21 : decode cX6_happens 21 = .ok (.aload_n 0, 1) := by decide +kernel
theorem dX6_happens_22 : decode cX6_happens 22 = .ok (.getfield 7, 3) := by decide +kernel
theorem dX6_happens_25 : decode cX6_happens 25 = .ok (.iconst 1, 1) := by decide +kernel
theorem dX6_happens_26 : decode cX6_happens 26 = .ok (.iaload, 1) := by decide +kernel
theorem dX6_happens_27 : decode cX6_happens 27 = .ok (.iastore, 1) := by decide +kernel
theorem dX6_happens_28 : decode cX6_happens 28 = .ok (.aload_n 0, 1) := by decide +kernel
theorem dX6_happens_29 : decode cX6_happens 29 = .ok (.getfield 7, 3) := by decide +kernel
theorem dX6_happens_32 : decode cX6_happens 32 = .ok (.iload_n 3, 1) := by decide +kernel
theorem dX6_happens_33 : decode cX6_happens 33 = .ok (.iconst 1, 1) := by decide +kernel
theorem dX6_happens_34 : decode cX6_happens 34 = .ok (.iadd, 1) := by decide +kernel
theorem dX6_happens_35 : decode cX6_happens 35 = .ok (.iload_n 1, 1) := by decide +kernel
theorem dX6_happens_36 : decode cX6_happens 36 = .ok (.iastore, 1) := by decide +kernel
theorem dX6_happens_37 : decode cX6_happens 37 = .ok (.aload_n 0, 1) := by decide +kernel
theorem dX6_happens_38 : decode cX6_happens 38 = .ok (.getfield 7, 3) := by decide +kernel
theorem dX6_happens_41 : decode cX6_happens 41 = .ok (.iload_n 3, 1) := by decide +kernel
theorem dX6_happens_42 : decode cX6_happens 42 = .ok (.iconst 2, 1) := by decide +kernel
theorem dX6_happens_43 : decode cX6_happens 43 = .ok (.iadd, 1) := by decide +kernel
theorem dX6_happens_44 : decode cX6_happens 44 = .ok (.iload_n 2, 1) := by decide +kernel
theorem dX6_happens_45 : decode cX6_happens 45 = .ok (.iastore, 1) := by decide +kernel
theorem dX6_happens_46 : decode cX6_happens 46 = .ok (.aload_n 0, 1) := by decide +kernel
theorem dX6_happens_47 : decode cX6_happens 47 = .ok (.getfield 7, 3) := by decide +kernel
theorem dX6_happens_50 : decode cX6_happens 50 = .ok (.bipush 9, 2) := by decide +kernel
theorem dX6_happens_52 : decode cX6_happens 52 = .ok (.dup2, 1) := by decide +kernel
theorem dX6_happens_53 : decode cX6_happens 53 = .ok (.iaload, 1) := by decide +kernel
theorem dX6_happens_54 : decode cX6_happens 54 = .ok (.iconst 1, 1) := by decide +kernel
theorem dX6_happens_55 : decode cX6_happens 55 = .ok (.iadd, 1) := by decide +kernel
theorem dX6_happens_56 : decode cX6_happens 56 = .ok (.iastore, 1) := by decide +kernel
theorem dX6_happens_57 : decode cX6_happens 57 = .ok (.return_, 1) := by decide +kernel
theorem dX6_add_0 : decode cX6_add 0 = .ok (.iload_n 1, 1) := by decide +kernel
theorem dX6_add_1 : decode cX6_add 1 = .ok (.invokestatic 36, 3) := by decide +kernel
theorem dX6_add_4 : decode cX6_add 4 = .ok (.ifCond .eq 12, 3) := by decide +kernel
theorem dX6_add_7 : decode cX6_add 7 = .ok (.iload_n 2, 1) := by decide +kernel
theorem dX6_add_8 : decode cX6_add 8 = .ok (.iconst 1, 1) := by decide +kernel
theorem dX6_add_9 : decode cX6_add 9 = .ok (.iconst 4, 1) := by decide +kernel
theorem dX6_add_10 : decode cX6_add 10 = .ok (.invokestatic 32, 3) := by decide +kernel
theorem dX6_add_13 : decode cX6_add 13 = .ok (.ifCond .ne 7, 3) := by decide +kernel
theorem dX6_add_16 : decode cX6_add 16 = .ok (.sipush (-20001), 3) := by decide +kernel
theorem dX6_add_19 : decode cX6_add 19 = .ok (.ireturn, 1) := by decide +kernel
theorem dX6_add_20 : decode cX6_add 20 = .ok (.aload_n 0, 1) := by decide +kernel
theorem dX6_add_21 : decode cX6_add 21 = .ok (.getfield 7, 3) := by decide +kernel
theorem dX6_add_24 : decode cX6_add 24 = .ok (.iconst 0, 1) := by decide +kernel
theorem dX6_add_25 : decode cX6_add 25 = .ok (.iaload, 1) := by decide +kernel
theorem dX6_add_26 : decode cX6_add 26 = .ok (.bipush 16, 2) := by decide +kernel
theorem dX6_add_28 : decode cX6_add 28 = .ok (.if_icmp .ne 7, 3) := by decide +kernel
theorem dX6_add_31 : decode cX6_add 31 = .ok (.sipush (-20003), 3) := by decide +kernel
theorem dX6_add_34 : decode cX6_add 34 = .ok (.ireturn, 1) := by decide +kernel
theorem dX6_add_35 : decode cX6_add 35 = .ok (.aload_n 0, 1) := by decide +kernel
theorem dX6_add_36 : decode cX6_add 36 = .ok (.aload_n 0, 1) := by decide +kernel
theorem dX6_add_37 : decode cX6_add 37 = .ok (.getfield 7, 3) := by decide +kernel
theorem dX6_add_40 : decode cX6_add 40 = .ok (.invokevirtual 40, 3) := by decide +kernel
theorem dX6_add_43 : decode cX6_add 43 = .ok (.aload_n 0, 1) := by decide +kernel
theorem dX6_add_44 : decode cX6_add 44 = .ok (.getfield 7, 3) := by decide +kernel
theorem dX6_add_47 : decode cX6_add 47 = .ok (.iconst 0, 1) := by decide +kernel
theorem dX6_add_48 : decode cX6_add 48 = .ok (.iaload, 1) := by decide +kernel
theorem dX6_add_49 : decode cX6_add 49 = .ok (.istore_n 3, 1) := by decide +kernel
theorem dX6_add_50 : decode cX6_add 50 = .ok (.iconst 0, 1) := by decide +kernel
theorem dX6_add_51 : decode cX6_add 51 = .ok (.istore 4, 2) := by decide +kernel
theorem dX6_add_53 : decode cX6_add 53 = .ok (.iload 4, 2) := by decide +kernel
theorem dX6_add_55 : decode cX6_add 55 = .ok (.bipush 56, 2) := by decide +kernel
theorem dX6_add_57 : decode cX6_add 57 = .ok (.if_icmp .ge 17, 3) := by decide +kernel
theorem dX6_add_60 : decode cX6_add 60 = .ok (.aload_n 0, 1) := by decide +kernel
theorem dX6_add_61 : decode cX6_add 61 = .ok (.iload_n 3, 1) := by decide +kernel
theorem dX6_add_62 : decode cX6_add 62 = .ok (.iload 4, 2) := by decide +kernel
theorem dX6_add_64 : decode cX6_add 64 = .ok (.iconst 0, 1) := by decide +kernel
theorem dX6_add_65 : decode cX6_add 65 = .ok (.invokevirtual 44, 3) := by decide +kernel
theorem dX6_add_68 : decode cX6_add 68 = .ok (.iinc 4 1, 3) := by decide +kernel
theorem dX6_add_71 : decode cX6_add 71 = .ok (.goto (-18), 3) := by decide +kernel
theorem dX6_add_74 : decode cX6_add 74 = .ok (.aload_n 0, 1) := by decide +kernel
theorem dX6_add_75 : decode cX6_add 75 = .ok (.iload_n 3, 1) := by decide +kernel
theorem dX6_add_76 : decode cX6_add 76 = .ok (.iconst 1, 1) := by decide +kernel
theorem dX6_add_77 : decode cX6_add 77 = .ok (.iload_n 1, 1) := by decide +kernel
theorem dX6_add_78 : decode cX6_add 78 = .ok (.invokevirtual 44, 3) := by decide +kernel
theorem dX6_add_81 : decode cX6_add 81 = .ok (.aload_n 0, 1) := by decide +kernel
theorem dX6_add_82 : decode cX6_add 82 = .ok (.iload_n 3, 1) := by decide +kernel
theorem dX6_add_83 : decode cX6_add 83 = .ok (.iconst 5, 1) := by decide +kernel
theorem dX6_add_84 : decode cX6_add 84 = .ok (.iload_n 2, 1) := by decide +kernel
theorem dX6_add_85 : decode cX6_add 85 = .ok (.invokevirtual 44, 3) := by decide +kernel
theorem dX6_add_88 : decode cX6_add 88 = .ok (.aload_n 0, 1) := by decide +kernel
theorem dX6_add_89 : decode cX6_add 89 = .ok (.iload_n 3, 1) := by decide +kernel
theorem dX6_add_90 : decode cX6_add 90 = .ok (.bipush 8, 2) := by decide +kernel
theorem dX6_add_92 : decode cX6_add 92 = .ok (.iconst (-1), 1) := by decide +kernel
theorem dX6_add_93 : decode cX6_add 93 = .ok (.invokevirtual 44, 3) := by decide +kernel
theorem dX6_add_96 : decode cX6_add 96 = .ok (.aload_n 0, 1) := by decide +kernel
theorem dX6_add_97 : decode cX6_add 97 = .ok (.iload_n 3, 1) := by decide +kernel
theorem dX6_add_98 : decode cX6_add 98 = .ok (.bipush 10, 2) := by decide +kernel
theorem dX6_add_100 : decode cX6_add 100 = .ok (.iconst 1, 1) := by decide +kernel
theorem dX6_add_101 : decode cX6_add 101 = .ok (.invokevirtual 44, 3) := by decide +kernel
theorem dX6_add_104 : decode cX6_add 104 = .ok (.aload_n 0, 1) := by decide +kernel
theorem dX6_add_105 : decode cX6_add 105 = .ok (.getfield 7, 3) := by decide +kernel
theorem dX6_add_108 : decode cX6_add 108 = .ok (.iconst 0, 1) := by decide +kernel
theorem dX6_add_109 : decode cX6_add 109 = .ok (.dup2, 1) := by decide +kernel
theorem dX6_add_110 : decode cX6_add 110 = .ok (.iaload, 1) := by decide +kernel
theorem dX6_add_111 : decode cX6_add 111 = .ok (.iconst 1, 1) := by decide +kernel
theorem dX6_add_112 : decode cX6_add 112 = .ok (.iadd, 1) := by decide +kernel
theorem dX6_add_113 : decode cX6_add 113 = .ok (.iastore, 1) := by decide +kernel
theorem dX6_add_114 : decode cX6_add 114 = .ok (.iload_n 3, 1) := by decide +kernel
theorem dX6_add_115 : decode cX6_add 115 = .ok (.ireturn, 1) := by decide +kernel
theorem dX6_isIn_0 : decode cX6_isIn 0 = .ok (.iload_n 0, 1) := by decide +kernel
theorem dX6_isIn_1 : decode cX6_isIn 1 = .ok (.tableswitch 83 0 5 #[39, 46, 51, 60, 68, 76], 39) := by decide +kernel
theorem dX6_isIn_40 : decode cX6_isIn 40 = .ok (.iload_n 1, 1) := by decide +kernel
theorem dX6_isIn_41 : decode cX6_isIn 41 = .ok (.iconst 0, 1) := by decide +kernel
theorem dX6_isIn_42 : decode cX6_isIn 42 = .ok (.iconst 1, 1) := by decide +kernel
theorem dX6_isIn_43 : decode cX6_isIn 43 = .ok (.invokestatic 32, 3) := by decide +kernel
theorem dX6_isIn_46 : decode cX6_isIn 46 = .ok (.ireturn, 1) := by decide +kernel
theorem dX6_isIn_47 : decode cX6_isIn 47 = .ok (.iload_n 1, 1) := by decide +kernel
theorem dX6_isIn_48 : decode cX6_isIn 48 = .ok (.invokestatic 36, 3) := by decide +kernel
theorem dX6_isIn_51 : decode cX6_isIn 51 = .ok (.ireturn, 1) := by decide +kernel
theorem dX6_isIn_52 : decode cX6_isIn 52 = .ok (.iload_n 1, 1) := by decide +kernel
theorem dX6_isIn_53 : decode cX6_isIn 53 = .ok (.iconst 0, 1) := by decide +kernel
theorem dX6_isIn_54 : decode cX6_isIn 54 = .ok (.sipush 1000, 3) := by decide +kernel
theorem dX6_isIn_57 : decode cX6_isIn 57 = .ok (.invokestatic 32, 3) := by decide +kernel
theorem dX6_isIn_60 : decode cX6_isIn 60 = .ok (.ireturn, 1) := by decide +kernel
theorem dX6_isIn_61 : decode cX6_isIn 61 = .ok (.iload_n 1, 1) := by decide +kernel
theorem dX6_isIn_62 : decode cX6_isIn 62 = .ok (.iconst 0, 1) := by decide +kernel
theorem dX6_isIn_63 : decode cX6_isIn 63 = .ok (.bipush 20, 2) := by decide +kernel
theorem dX6_isIn_65 : decode cX6_isIn 65 = .ok (.invokestatic 32, 3) := by decide +kernel
theorem dX6_isIn_68 : decode cX6_isIn 68 = .ok (.ireturn, 1) := by decide +kernel
theorem dX6_isIn_69 : decode cX6_isIn 69 = .ok (.iload_n 1, 1) := by decide +kernel
theorem dX6_isIn_70 : decode cX6_isIn 70 = .ok (.iconst 0, 1) := by decide +kernel
theorem dX6_isIn_71 : decode cX6_isIn 71 = .ok (.bipush 20, 2) := by decide +kernel
theorem dX6_isIn_73 : decode cX6_isIn 73 = .ok (.invokestatic 32, 3) := by decide +kernel
theorem dX6_isIn_76 : decode cX6_isIn 76 = .ok (.ireturn, 1) := by decide +kernel
theorem dX6_isIn_77 : decode cX6_isIn 77 = .ok (.iload_n 1, 1) := by decide +kernel
theorem dX6_isIn_78 : decode cX6_isIn 78 = .ok (.iconst 1, 1) := by decide +kernel
theorem dX6_isIn_79 : decode cX6_isIn 79 = .ok (.iconst 4, 1) := by decide +kernel
theorem dX6_isIn_80 : decode cX6_isIn 80 = .ok (.invokestatic 32, 3) := by decide +kernel
theorem dX6_isIn_83 : decode cX6_isIn 83 = .ok (.ireturn, 1) := by decide +kernel
theorem dX6_isIn_84 : decode cX6_isIn 84 = .ok (.iload_n 0, 1) := by decide +kernel
theorem dX6_isIn_85 : decode cX6_isIn 85 = .ok (.bipush 6, 2) := by decide +kernel
theorem dX6_isIn_87 : decode cX6_isIn 87 = .ok (.if_icmp .ne 17, 3) := by decide +kernel
theorem dX6_isIn_90 : decode cX6_isIn 90 = .ok (.iload_n 1, 1) := by decide +kernel
theorem dX6_isIn_91 : decode cX6_isIn 91 = .ok (.iconst 0, 1) := by decide +kernel
theorem dX6_isIn_92 : decode cX6_isIn 92 = .ok (.bipush 15, 2) := by decide +kernel
theorem dX6_isIn_94 : decode cX6_isIn 94 = .ok (.invokestatic 32, 3) := by decide +kernel
theorem dX6_isIn_97 : decode cX6_isIn 97 = .ok (.ifCond .eq 7, 3) := by decide +kernel
theorem dX6_isIn_100 : decode cX6_isIn 100 = .ok (.iconst 1, 1) := by decide +kernel
theorem dX6_isIn_101 : decode cX6_isIn 101 = .ok (.goto 4, 3) := by decide +kernel
theorem dX6_isIn_104 : decode cX6_isIn 104 = .ok (.iconst 0, 1) := by decide +kernel
theorem dX6_isIn_105 : decode cX6_isIn 105 = .ok (.ireturn, 1) := by decide +kernel
theorem dX6_leavesShelf_0 : decode cX6_leavesShelf 0 = .ok (.aload_n 0, 1) := by decide +kernel
theorem dX6_leavesShelf_1 : decode cX6_leavesShelf 1 = .ok (.iload_n 1, 1) := by decide +kernel
theorem dX6_leavesShelf_2 : decode cX6_leavesShelf 2 = .ok (.bipush 13, 2) := by decide +kernel
theorem dX6_leavesShelf_4 : decode cX6_leavesShelf 4 = .ok (.iconst 0, 1) := by decide +kernel
theorem dX6_leavesShelf_5 : decode cX6_leavesShelf 5 = .ok (.invokevirtual 44, 3) := by decide +kernel
theorem dX6_leavesShelf_8 : decode cX6_leavesShelf 8 = .ok (.aload_n 0, 1) := by decide +kernel
theorem dX6_leavesShelf_9 : decode cX6_leavesShelf 9 = .ok (.iconst 5, 1) := by decide +kernel
theorem dX6_leavesShelf_10 : decode cX6_leavesShelf 10 = .ok (.iload_n 1, 1) := by decide +kernel
theorem dX6_leavesShelf_11 : decode cX6_leavesShelf 11 = .ok (.invokevirtual 48, 3) := by decide +kernel
theorem dX6_leavesShelf_14 : decode cX6_leavesShelf 14 = .ok (.return_, 1) := by decide +kernel
theorem dX6_set_0 : decode cX6_set 0 = .ok (.aload_n 0, 1) := by decide +kernel
theorem dX6_set_1 : decode cX6_set 1 = .ok (.iload_n 1, 1) := by decide +kernel
theorem dX6_set_2 : decode cX6_set 2 = .ok (.invokevirtual 52, 3) := by decide +kernel
theorem dX6_set_5 : decode cX6_set 5 = .ok (.ifCond .eq 11, 3) := by decide +kernel
theorem dX6_set_8 : decode cX6_set 8 = .ok (.iload_n 2, 1) := by decide +kernel
theorem dX6_set_9 : decode cX6_set 9 = .ok (.iload_n 3, 1) := by decide +kernel
theorem dX6_set_10 : decode cX6_set 10 = .ok (.invokestatic 55, 3) := by decide +kernel
theorem dX6_set_13 : decode cX6_set 13 = .ok (.ifCond .ne 7, 3) := by decide +kernel
theorem dX6_set_16 : decode cX6_set 16 = .ok (.sipush (-20001), 3) := by decide +kernel
theorem dX6_set_19 : decode cX6_set 19 = .ok (.ireturn, 1) := by decide +kernel
theorem dX6_set_20 : decode cX6_set 20 = .ok (.aload_n 0, 1) := by decide +kernel
theorem dX6_set_21 : decode cX6_set 21 = .ok (.aload_n 0, 1) := by decide +kernel
theorem dX6_set_22 : decode cX6_set 22 = .ok (.getfield 7, 3) := by decide +kernel
theorem dX6_set_25 : decode cX6_set 25 = .ok (.invokevirtual 40, 3) := by decide +kernel
theorem dX6_set_28 : decode cX6_set 28 = .ok (.aload_n 0, 1) := by decide +kernel
theorem dX6_set_29 : decode cX6_set 29 = .ok (.iload_n 1, 1) := by decide +kernel
theorem dX6_set_30 : decode cX6_set 30 = .ok (.iload_n 2, 1) := by decide +kernel
theorem dX6_set_31 : decode cX6_set 31 = .ok (.invokevirtual 59, 3) := by decide +kernel
theorem dX6_set_34 : decode cX6_set 34 = .ok (.istore 4, 2) := by decide +kernel
theorem dX6_set_36 : decode cX6_set 36 = .ok (.aload_n 0, 1) := by decide +kernel
theorem dX6_set_37 : decode cX6_set 37 = .ok (.iload_n 1, 1) := by decide +kernel
theorem dX6_set_38 : decode cX6_set 38 = .ok (.iload_n 2, 1) := by decide +kernel
theorem dX6_set_39 : decode cX6_set 39 = .ok (.iload_n 3, 1) := by decide +kernel
theorem dX6_set_40 : decode cX6_set 40 = .ok (.invokevirtual 44, 3) := by decide +kernel
theorem dX6_set_43 : decode cX6_set 43 = .ok (.aload_n 0, 1) := by decide +kernel
theorem dX6_set_44 : decode cX6_set 44 = .ok (.iload_n 1, 1) := by decide +kernel
theorem dX6_set_45 : decode cX6_set 45 = .ok (.iconst 5, 1) := by decide +kernel
theorem dX6_set_46 : decode cX6_set 46 = .ok (.invokevirtual 59, 3) := by decide +kernel
theorem dX6_set_49 : decode cX6_set 49 = .ok (.iconst 1, 1) := by decide +kernel
theorem dX6_set_50 : decode cX6_set 50 = .ok (.if_icmp .ne 18, 3) := by decide +kernel
theorem dX6_set_53 : decode cX6_set 53 = .ok (.aload_n 0, 1) := by decide +kernel
theorem dX6_set_54 : decode cX6_set 54 = .ok (.iload_n 1, 1) := by decide +kernel
theorem dX6_set_55 : decode cX6_set 55 = .ok (.bipush 13, 2) := by decide +kernel
theorem dX6_set_57 : decode cX6_set 57 = .ok (.invokevirtual 59, 3) := by decide +kernel
theorem dX6_set_60 : decode cX6_set 60 = .ok (.ifCond .le 8, 3) := by decide +kernel
theorem dX6_set_63 : decode cX6_set 63 = .ok (.aload_n 0, 1) := by decide +kernel
theorem dX6_set_64 : decode cX6_set 64 = .ok (.iload_n 1, 1) := by decide +kernel
theorem dX6_set_65 : decode cX6_set 65 = .ok (.invokevirtual 63, 3) := by decide +kernel
theorem dX6_set_68 : decode cX6_set 68 = .ok (.iload 4, 2) := by decide +kernel
theorem dX6_set_70 : decode cX6_set 70 = .ok (.ireturn, 1) := by decide +kernel
theorem dX6_setRoot_0 : decode cX6_setRoot 0 = .ok (.aload_n 0, 1) := by decide +kernel
theorem dX6_setRoot_1 : decode cX6_setRoot 1 = .ok (.iload_n 1, 1) := by decide +kernel
theorem dX6_setRoot_2 : decode cX6_setRoot 2 = .ok (.invokevirtual 52, 3) := by decide +kernel
theorem dX6_setRoot_5 : decode cX6_setRoot 5 = .ok (.ifCond .eq 16, 3) := by decide +kernel
theorem dX6_setRoot_8 : decode cX6_setRoot 8 = .ok (.iload_n 2, 1) := by decide +kernel
theorem dX6_setRoot_9 : decode cX6_setRoot 9 = .ok (.iconst (-1), 1) := by decide +kernel
theorem dX6_setRoot_10 : decode cX6_setRoot 10 = .ok (.if_icmp .eq 15, 3) := by decide +kernel
theorem dX6_setRoot_13 : decode cX6_setRoot 13 = .ok (.aload_n 0, 1) := by decide +kernel
theorem dX6_setRoot_14 : decode cX6_setRoot 14 = .ok (.iload_n 2, 1) := by decide +kernel
theorem dX6_setRoot_15 : decode cX6_setRoot 15 = .ok (.invokevirtual 52, 3) := by decide +kernel
theorem dX6_setRoot_18 : decode cX6_setRoot 18 = .ok (.ifCond .ne 7, 3) := by decide +kernel
theorem dX6_setRoot_21 : decode cX6_setRoot 21 = .ok (.sipush (-20001), 3) := by decide +kernel
theorem dX6_setRoot_24 : decode cX6_setRoot 24 = .ok (.ireturn, 1) := by decide +kernel
theorem dX6_setRoot_25 : decode cX6_setRoot 25 = .ok (.iload_n 2, 1) := by decide +kernel
theorem dX6_setRoot_26 : decode cX6_setRoot 26 = .ok (.istore_n 3, 1) := by decide +kernel
theorem dX6_setRoot_27 : decode cX6_setRoot 27 = .ok (.iload_n 3, 1) := by decide +kernel
theorem dX6_setRoot_28 : decode cX6_setRoot 28 = .ok (.ifCond .lt 19, 3) := by decide +kernel
theorem dX6_setRoot_31 : decode cX6_setRoot 31 = .ok (.iload_n 3, 1) := by decide +kernel
theorem dX6_setRoot_32 : decode cX6_setRoot 32 = .ok (.iload_n 1, 1) := by decide +kernel
theorem dX6_setRoot_33 : decode cX6_setRoot 33 = .ok (.if_icmp .eq 14, 3) := by decide +kernel
theorem dX6_setRoot_36 : decode cX6_setRoot 36 = .ok (.aload_n 0, 1) := by decide +kernel
theorem dX6_setRoot_37 : decode cX6_setRoot 37 = .ok (.iload_n 3, 1) := by decide +kernel
theorem dX6_setRoot_38 : decode cX6_setRoot 38 = .ok (.bipush 8, 2) := by decide +kernel
theorem dX6_setRoot_40 : decode cX6_setRoot 40 = .ok (.invokevirtual 59, 3) := by decide +kernel
theorem dX6_setRoot_43 : decode cX6_setRoot 43 = .ok (.istore_n 3, 1) := by decide +kernel
theorem dX6_setRoot_44 : decode cX6_setRoot 44 = .ok (.goto (-17), 3) := by decide +kernel
theorem dX6_setRoot_47 : decode cX6_setRoot 47 = .ok (.iload_n 3, 1) := by decide +kernel
theorem dX6_setRoot_48 : decode cX6_setRoot 48 = .ok (.iload_n 1, 1) := by decide +kernel
theorem dX6_setRoot_49 : decode cX6_setRoot 49 = .ok (.if_icmp .ne 7, 3) := by decide +kernel
theorem dX6_setRoot_52 : decode cX6_setRoot 52 = .ok (.sipush (-20002), 3) := by decide +kernel
theorem dX6_setRoot_55 : decode cX6_setRoot 55 = .ok (.ireturn, 1) := by decide +kernel
theorem dX6_setRoot_56 : decode cX6_setRoot 56 = .ok (.aload_n 0, 1) := by decide +kernel
theorem dX6_setRoot_57 : decode cX6_setRoot 57 = .ok (.aload_n 0, 1) := by decide +kernel
theorem dX6_setRoot_58 : decode cX6_setRoot 58 = .ok (.getfield 7, 3) := by decide +kernel
theorem dX6_setRoot_61 : decode cX6_setRoot 61 = .ok (.invokevirtual 40, 3) := by decide +kernel
theorem dX6_setRoot_64 : decode cX6_setRoot 64 = .ok (.aload_n 0, 1) := by decide +kernel
theorem dX6_setRoot_65 : decode cX6_setRoot 65 = .ok (.iload_n 1, 1) := by decide +kernel
theorem dX6_setRoot_66 : decode cX6_setRoot 66 = .ok (.bipush 8, 2) := by decide +kernel
theorem dX6_setRoot_68 : decode cX6_setRoot 68 = .ok (.invokevirtual 59, 3) := by decide +kernel
theorem dX6_setRoot_71 : decode cX6_setRoot 71 = .ok (.istore 4, 2) := by decide +kernel
theorem dX6_setRoot_73 : decode cX6_setRoot 73 = .ok (.aload_n 0, 1) := by decide +kernel
theorem dX6_setRoot_74 : decode cX6_setRoot 74 = .ok (.iload_n 1, 1) := by decide +kernel
theorem dX6_setRoot_75 : decode cX6_setRoot 75 = .ok (.bipush 8, 2) := by decide +kernel
theorem dX6_setRoot_77 : decode cX6_setRoot 77 = .ok (.iload_n 2, 1) := by decide +kernel
theorem dX6_setRoot_78 : decode cX6_setRoot 78 = .ok (.invokevirtual 44, 3) := by decide +kernel
theorem dX6_setRoot_81 : decode cX6_setRoot 81 = .ok (.iload 4, 2) := by decide +kernel
theorem dX6_setRoot_83 : decode cX6_setRoot 83 = .ok (.ireturn, 1) := by decide +kernel
theorem dX6_values_0 : decode cX6_values 0 = .ok (.aload_n 0, 1) := by decide +kernel
theorem dX6_values_1 : decode cX6_values 1 = .ok (.iload_n 1, 1) := by decide +kernel
theorem dX6_values_2 : decode cX6_values 2 = .ok (.invokevirtual 52, 3) := by decide +kernel
theorem dX6_values_5 : decode cX6_values 5 = .ok (.ifCond .eq 10, 3) := by decide +kernel
theorem dX6_values_8 : decode cX6_values 8 = .ok (.iload_n 2, 1) := by decide +kernel
theorem dX6_values_9 : decode cX6_values 9 = .ok (.invokestatic 36, 3) := by decide +kernel
theorem dX6_values_12 : decode cX6_values 12 = .ok (.ifCond .ne 7, 3) := by decide +kernel
theorem dX6_values_15 : decode cX6_values 15 = .ok (.sipush (-20001), 3) := by decide +kernel
theorem dX6_values_18 : decode cX6_values 18 = .ok (.ireturn, 1) := by decide +kernel
theorem dX6_values_19 : decode cX6_values 19 = .ok (.aload_n 0, 1) := by decide +kernel
theorem dX6_values_20 : decode cX6_values 20 = .ok (.iload_n 1, 1) := by decide +kernel
theorem dX6_values_21 : decode cX6_values 21 = .ok (.bipush 7, 2) := by decide +kernel
theorem dX6_values_23 : decode cX6_values 23 = .ok (.invokevirtual 59, 3) := by decide +kernel
theorem dX6_values_26 : decode cX6_values 26 = .ok (.istore_n 3, 1) := by decide +kernel
theorem dX6_values_27 : decode cX6_values 27 = .ok (.aload_n 0, 1) := by decide +kernel
theorem dX6_values_28 : decode cX6_values 28 = .ok (.iload_n 1, 1) := by decide +kernel
theorem dX6_values_29 : decode cX6_values 29 = .ok (.bipush 7, 2) := by decide +kernel
theorem dX6_values_31 : decode cX6_values 31 = .ok (.iload_n 2, 1) := by decide +kernel
theorem dX6_values_32 : decode cX6_values 32 = .ok (.invokevirtual 44, 3) := by decide +kernel
theorem dX6_values_35 : decode cX6_values 35 = .ok (.iload_n 3, 1) := by decide +kernel
theorem dX6_values_36 : decode cX6_values 36 = .ok (.ireturn, 1) := by decide +kernel
theorem dX6_acts_0 : decode cX6_acts 0 = .ok (.iload_n 1, 1) := by decide +kernel
theorem dX6_acts_1 : decode cX6_acts 1 = .ok (.sipush (-20001), 3) := by decide +kernel
theorem dX6_acts_4 : decode cX6_acts 4 = .ok (.if_icmp .eq 18, 3) := by decide +kernel
theorem dX6_acts_7 : decode cX6_acts 7 = .ok (.iload_n 1, 1) := by decide +kernel
theorem dX6_acts_8 : decode cX6_acts 8 = .ok (.sipush (-20002), 3) := by decide +kernel
theorem dX6_acts_11 : decode cX6_acts 11 = .ok (.if_icmp .eq 11, 3) := by decide +kernel
theorem dX6_acts_14 : decode cX6_acts 14 = .ok (.aload_n 0, 1) := by decide +kernel
theorem dX6_acts_15 : decode cX6_acts 15 = .ok (.aload_n 0, 1) := by decide +kernel
theorem dX6_acts_16 : decode cX6_acts 16 = .ok (.getfield 13, 3) := by decide +kernel
theorem dX6_acts_19 : decode cX6_acts 19 = .ok (.invokevirtual 40, 3) := by decide +kernel
theorem dX6_acts_22 : decode cX6_acts 22 = .ok (.iload_n 1, 1) := by decide +kernel
theorem dX6_acts_23 : decode cX6_acts 23 = .ok (.ireturn, 1) := by decide +kernel
theorem dX6_setValue_0 : decode cX6_setValue 0 = .ok (.aload_n 0, 1) := by decide +kernel
theorem dX6_setValue_1 : decode cX6_setValue 1 = .ok (.getfield 7, 3) := by decide +kernel
theorem dX6_setValue_4 : decode cX6_setValue 4 = .ok (.aload_n 0, 1) := by decide +kernel
theorem dX6_setValue_5 : decode cX6_setValue 5 = .ok (.getfield 13, 3) := by decide +kernel
theorem dX6_setValue_8 : decode cX6_setValue 8 = .ok (.invokestatic 67, 3) := by decide +kernel
theorem dX6_setValue_11 : decode cX6_setValue 11 = .ok (.aload_n 0, 1) := by decide +kernel
theorem dX6_setValue_12 : decode cX6_setValue 12 = .ok (.aload_n 0, 1) := by decide +kernel
theorem dX6_setValue_13 : decode cX6_setValue 13 = .ok (.iload_n 1, 1) := by decide +kernel
theorem dX6_setValue_14 : decode cX6_setValue 14 = .ok (.iload_n 2, 1) := by decide +kernel
theorem dX6_setValue_15 : decode cX6_setValue 15 = .ok (.invokevirtual 71, 3) := by decide +kernel
theorem dX6_setValue_18 : decode cX6_setValue 18 = .ok (.invokevirtual 74, 3) := by decide +kernel
theorem dX6_setValue_21 : decode cX6_setValue 21 = .ok (.ireturn, 1) := by decide +kernel
theorem dX6_stands_0 : decode cX6_stands 0 = .ok (.aload_n 0, 1) := by decide +kernel
theorem dX6_stands_1 : decode cX6_stands 1 = .ok (.iload_n 1, 1) := by decide +kernel
theorem dX6_stands_2 : decode cX6_stands 2 = .ok (.bipush 9, 2) := by decide +kernel
theorem dX6_stands_4 : decode cX6_stands 4 = .ok (.invokevirtual 59, 3) := by decide +kernel
theorem dX6_stands_7 : decode cX6_stands 7 = .ok (.iconst 1, 1) := by decide +kernel
theorem dX6_stands_8 : decode cX6_stands 8 = .ok (.if_icmp .eq 13, 3) := by decide +kernel
theorem dX6_stands_11 : decode cX6_stands 11 = .ok (.aload_n 0, 1) := by decide +kernel
theorem dX6_stands_12 : decode cX6_stands 12 = .ok (.iload_n 1, 1) := by decide +kernel
theorem dX6_stands_13 : decode cX6_stands 13 = .ok (.bipush 10, 2) := by decide +kernel
theorem dX6_stands_15 : decode cX6_stands 15 = .ok (.invokevirtual 59, 3) := by decide +kernel
theorem dX6_stands_18 : decode cX6_stands 18 = .ok (.ifCond .ne 7, 3) := by decide +kernel
theorem dX6_stands_21 : decode cX6_stands 21 = .ok (.iconst 1, 1) := by decide +kernel
theorem dX6_stands_22 : decode cX6_stands 22 = .ok (.goto 4, 3) := by decide +kernel
theorem dX6_stands_25 : decode cX6_stands 25 = .ok (.iconst 0, 1) := by decide +kernel
theorem dX6_stands_26 : decode cX6_stands 26 = .ok (.ireturn, 1) := by decide +kernel
theorem dX6_hasRoot_0 : decode cX6_hasRoot 0 = .ok (.iconst 0, 1) := by decide +kernel
theorem dX6_hasRoot_1 : decode cX6_hasRoot 1 = .ok (.istore_n 2, 1) := by decide +kernel
theorem dX6_hasRoot_2 : decode cX6_hasRoot 2 = .ok (.aload_n 0, 1) := by decide +kernel
theorem dX6_hasRoot_3 : decode cX6_hasRoot 3 = .ok (.iload_n 1, 1) := by decide +kernel
theorem dX6_hasRoot_4 : decode cX6_hasRoot 4 = .ok (.bipush 8, 2) := by decide +kernel
theorem dX6_hasRoot_6 : decode cX6_hasRoot 6 = .ok (.invokevirtual 59, 3) := by decide +kernel
theorem dX6_hasRoot_9 : decode cX6_hasRoot 9 = .ok (.istore_n 3, 1) := by decide +kernel
theorem dX6_hasRoot_10 : decode cX6_hasRoot 10 = .ok (.iload_n 3, 1) := by decide +kernel
theorem dX6_hasRoot_11 : decode cX6_hasRoot 11 = .ok (.ifCond .lt 35, 3) := by decide +kernel
theorem dX6_hasRoot_14 : decode cX6_hasRoot 14 = .ok (.iload_n 2, 1) := by decide +kernel
theorem dX6_hasRoot_15 : decode cX6_hasRoot 15 = .ok (.ifCond .ne 14, 3) := by decide +kernel
theorem dX6_hasRoot_18 : decode cX6_hasRoot 18 = .ok (.aload_n 0, 1) := by decide +kernel
theorem dX6_hasRoot_19 : decode cX6_hasRoot 19 = .ok (.iload_n 3, 1) := by decide +kernel
theorem dX6_hasRoot_20 : decode cX6_hasRoot 20 = .ok (.bipush 9, 2) := by decide +kernel
theorem dX6_hasRoot_22 : decode cX6_hasRoot 22 = .ok (.invokevirtual 59, 3) := by decide +kernel
theorem dX6_hasRoot_25 : decode cX6_hasRoot 25 = .ok (.iconst 1, 1) := by decide +kernel
theorem dX6_hasRoot_26 : decode cX6_hasRoot 26 = .ok (.if_icmp .ne 7, 3) := by decide +kernel
theorem dX6_hasRoot_29 : decode cX6_hasRoot 29 = .ok (.iconst 1, 1) := by decide +kernel
theorem dX6_hasRoot_30 : decode cX6_hasRoot 30 = .ok (.goto 4, 3) := by decide +kernel
theorem dX6_hasRoot_33 : decode cX6_hasRoot 33 = .ok (.iconst 0, 1) := by decide +kernel
theorem dX6_hasRoot_34 : decode cX6_hasRoot 34 = .ok (.istore_n 2, 1) := by decide +kernel
theorem dX6_hasRoot_35 : decode cX6_hasRoot 35 = .ok (.aload_n 0, 1) := by decide +kernel
theorem dX6_hasRoot_36 : decode cX6_hasRoot 36 = .ok (.iload_n 3, 1) := by decide +kernel
theorem dX6_hasRoot_37 : decode cX6_hasRoot 37 = .ok (.bipush 8, 2) := by decide +kernel
theorem dX6_hasRoot_39 : decode cX6_hasRoot 39 = .ok (.invokevirtual 59, 3) := by decide +kernel
theorem dX6_hasRoot_42 : decode cX6_hasRoot 42 = .ok (.istore_n 3, 1) := by decide +kernel
theorem dX6_hasRoot_43 : decode cX6_hasRoot 43 = .ok (.goto (-33), 3) := by decide +kernel
theorem dX6_hasRoot_46 : decode cX6_hasRoot 46 = .ok (.iload_n 2, 1) := by decide +kernel
theorem dX6_hasRoot_47 : decode cX6_hasRoot 47 = .ok (.ireturn, 1) := by decide +kernel
theorem dX6_why_0 : decode cX6_why 0 = .ok (.aload_n 0, 1) := by decide +kernel
theorem dX6_why_1 : decode cX6_why 1 = .ok (.iload_n 1, 1) := by decide +kernel
theorem dX6_why_2 : decode cX6_why 2 = .ok (.invokevirtual 78, 3) := by decide +kernel
theorem dX6_why_5 : decode cX6_why 5 = .ok (.ifCond .ne 7, 3) := by decide +kernel
theorem dX6_why_8 : decode cX6_why 8 = .ok (.sipush (-20009), 3) := by decide +kernel
theorem dX6_why_11 : decode cX6_why 11 = .ok (.ireturn, 1) := by decide +kernel
theorem dX6_why_12 : decode cX6_why 12 = .ok (.aload_n 0, 1) := by decide +kernel
theorem dX6_why_13 : decode cX6_why 13 = .ok (.iload_n 1, 1) := by decide +kernel
theorem dX6_why_14 : decode cX6_why 14 = .ok (.bipush 13, 2) := by decide +kernel
theorem dX6_why_16 : decode cX6_why 16 = .ok (.invokevirtual 59, 3) := by decide +kernel
theorem dX6_why_19 : decode cX6_why 19 = .ok (.ifCond .le 5, 3) := by decide +kernel
theorem dX6_why_22 : decode cX6_why 22 = .ok (.iconst 1, 1) := by decide +kernel
theorem dX6_why_23 : decode cX6_why 23 = .ok (.ireturn, 1) := by decide +kernel
theorem dX6_why_24 : decode cX6_why 24 = .ok (.aload_n 0, 1) := by decide +kernel
theorem dX6_why_25 : decode cX6_why 25 = .ok (.iload_n 1, 1) := by decide +kernel
theorem dX6_why_26 : decode cX6_why 26 = .ok (.iconst 5, 1) := by decide +kernel
theorem dX6_why_27 : decode cX6_why 27 = .ok (.invokevirtual 59, 3) := by decide +kernel
theorem dX6_why_30 : decode cX6_why 30 = .ok (.iconst 1, 1) := by decide +kernel
theorem dX6_why_31 : decode cX6_why 31 = .ok (.if_icmp .ne 5, 3) := by decide +kernel
theorem dX6_why_34 : decode cX6_why 34 = .ok (.iconst 0, 1) := by decide +kernel
theorem dX6_why_35 : decode cX6_why 35 = .ok (.ireturn, 1) := by decide +kernel
theorem dX6_why_36 : decode cX6_why 36 = .ok (.aload_n 0, 1) := by decide +kernel
theorem dX6_why_37 : decode cX6_why 37 = .ok (.iload_n 1, 1) := by decide +kernel
theorem dX6_why_38 : decode cX6_why 38 = .ok (.bipush 6, 2) := by decide +kernel
theorem dX6_why_40 : decode cX6_why 40 = .ok (.invokevirtual 59, 3) := by decide +kernel
theorem dX6_why_43 : decode cX6_why 43 = .ok (.aload_n 0, 1) := by decide +kernel
theorem dX6_why_44 : decode cX6_why 44 = .ok (.getfield 7, 3) := by decide +kernel
theorem dX6_why_47 : decode cX6_why 47 = .ok (.iconst 2, 1) := by decide +kernel
theorem dX6_why_48 : decode cX6_why 48 = .ok (.iaload, 1) := by decide +kernel
theorem dX6_why_49 : decode cX6_why 49 = .ok (.ishr, 1) := by decide +kernel
theorem dX6_why_50 : decode cX6_why 50 = .ok (.iconst 1, 1) := by decide +kernel
theorem dX6_why_51 : decode cX6_why 51 = .ok (.iand, 1) := by decide +kernel
theorem dX6_why_52 : decode cX6_why 52 = .ok (.iconst 1, 1) := by decide +kernel
theorem dX6_why_53 : decode cX6_why 53 = .ok (.if_icmp .ne 5, 3) := by decide +kernel
theorem dX6_why_56 : decode cX6_why 56 = .ok (.iconst 2, 1) := by decide +kernel
theorem dX6_why_57 : decode cX6_why 57 = .ok (.ireturn, 1) := by decide +kernel
theorem dX6_why_58 : decode cX6_why 58 = .ok (.aload_n 0, 1) := by decide +kernel
theorem dX6_why_59 : decode cX6_why 59 = .ok (.iload_n 1, 1) := by decide +kernel
theorem dX6_why_60 : decode cX6_why 60 = .ok (.invokevirtual 81, 3) := by decide +kernel
theorem dX6_why_63 : decode cX6_why 63 = .ok (.ifCond .eq 7, 3) := by decide +kernel
theorem dX6_why_66 : decode cX6_why 66 = .ok (.iconst 3, 1) := by decide +kernel
theorem dX6_why_67 : decode cX6_why 67 = .ok (.goto 44, 3) := by decide +kernel
theorem dX6_why_70 : decode cX6_why 70 = .ok (.aload_n 0, 1) := by decide +kernel
theorem dX6_why_71 : decode cX6_why 71 = .ok (.getfield 7, 3) := by decide +kernel
theorem dX6_why_74 : decode cX6_why 74 = .ok (.iconst 3, 1) := by decide +kernel
theorem dX6_why_75 : decode cX6_why 75 = .ok (.iaload, 1) := by decide +kernel
theorem dX6_why_76 : decode cX6_why 76 = .ok (.iconst 1, 1) := by decide +kernel
theorem dX6_why_77 : decode cX6_why 77 = .ok (.if_icmp .ne 33, 3) := by decide +kernel
theorem dX6_why_80 : decode cX6_why 80 = .ok (.aload_n 0, 1) := by decide +kernel
theorem dX6_why_81 : decode cX6_why 81 = .ok (.iload_n 1, 1) := by decide +kernel
theorem dX6_why_82 : decode cX6_why 82 = .ok (.bipush 12, 2) := by decide +kernel
theorem dX6_why_84 : decode cX6_why 84 = .ok (.invokevirtual 59, 3) := by decide +kernel
theorem dX6_why_87 : decode cX6_why 87 = .ok (.aload_n 0, 1) := by decide +kernel
theorem dX6_why_88 : decode cX6_why 88 = .ok (.getfield 7, 3) := by decide +kernel
theorem dX6_why_91 : decode cX6_why 91 = .ok (.iconst 4, 1) := by decide +kernel
theorem dX6_why_92 : decode cX6_why 92 = .ok (.iaload, 1) := by decide +kernel
theorem dX6_why_93 : decode cX6_why 93 = .ok (.if_icmp .lt 17, 3) := by decide +kernel
theorem dX6_why_96 : decode cX6_why 96 = .ok (.aload_n 0, 1) := by decide +kernel
theorem dX6_why_97 : decode cX6_why 97 = .ok (.iload_n 1, 1) := by decide +kernel
theorem dX6_why_98 : decode cX6_why 98 = .ok (.iconst 5, 1) := by decide +kernel
theorem dX6_why_99 : decode cX6_why 99 = .ok (.invokevirtual 59, 3) := by decide +kernel
theorem dX6_why_102 : decode cX6_why 102 = .ok (.iconst 2, 1) := by decide +kernel
theorem dX6_why_103 : decode cX6_why 103 = .ok (.if_icmp .le 7, 3) := by decide +kernel
theorem dX6_why_106 : decode cX6_why 106 = .ok (.iconst 4, 1) := by decide +kernel
theorem dX6_why_107 : decode cX6_why 107 = .ok (.goto 4, 3) := by decide +kernel
theorem dX6_why_110 : decode cX6_why 110 = .ok (.iconst 0, 1) := by decide +kernel
theorem dX6_why_111 : decode cX6_why 111 = .ok (.ireturn, 1) := by decide +kernel
theorem dX6_told_0 : decode cX6_told 0 = .ok (.iload_n 2, 1) := by decide +kernel
theorem dX6_told_1 : decode cX6_told 1 = .ok (.bipush 15, 2) := by decide +kernel
theorem dX6_told_3 : decode cX6_told 3 = .ok (.if_icmp .ge 12, 3) := by decide +kernel
theorem dX6_told_6 : decode cX6_told 6 = .ok (.aload_n 0, 1) := by decide +kernel
theorem dX6_told_7 : decode cX6_told 7 = .ok (.iload_n 1, 1) := by decide +kernel
theorem dX6_told_8 : decode cX6_told 8 = .ok (.iload_n 2, 1) := by decide +kernel
theorem dX6_told_9 : decode cX6_told 9 = .ok (.invokevirtual 59, 3) := by decide +kernel
theorem dX6_told_12 : decode cX6_told 12 = .ok (.goto 8, 3) := by decide +kernel
theorem dX6_told_15 : decode cX6_told 15 = .ok (.aload_n 0, 1) := by decide +kernel
theorem dX6_told_16 : decode cX6_told 16 = .ok (.iload_n 1, 1) := by decide +kernel
theorem dX6_told_17 : decode cX6_told 17 = .ok (.invokevirtual 84, 3) := by decide +kernel
theorem dX6_told_20 : decode cX6_told 20 = .ok (.ireturn, 1) := by decide +kernel
theorem dX6_point_0 : decode cX6_point 0 = .ok (.aload_n 0, 1) := by decide +kernel
theorem dX6_point_1 : decode cX6_point 1 = .ok (.iload_n 1, 1) := by decide +kernel
theorem dX6_point_2 : decode cX6_point 2 = .ok (.invokevirtual 52, 3) := by decide +kernel
theorem dX6_point_5 : decode cX6_point 5 = .ok (.ifCond .eq 22, 3) := by decide +kernel
theorem dX6_point_8 : decode cX6_point 8 = .ok (.iload_n 2, 1) := by decide +kernel
theorem dX6_point_9 : decode cX6_point 9 = .ok (.iconst 0, 1) := by decide +kernel
theorem dX6_point_10 : decode cX6_point 10 = .ok (.bipush 15, 2) := by decide +kernel
theorem dX6_point_12 : decode cX6_point 12 = .ok (.invokestatic 32, 3) := by decide +kernel
theorem dX6_point_15 : decode cX6_point 15 = .ok (.ifCond .eq 12, 3) := by decide +kernel
theorem dX6_point_18 : decode cX6_point 18 = .ok (.aload_n 0, 1) := by decide +kernel
theorem dX6_point_19 : decode cX6_point 19 = .ok (.iload_n 1, 1) := by decide +kernel
theorem dX6_point_20 : decode cX6_point 20 = .ok (.iload_n 2, 1) := by decide +kernel
theorem dX6_point_21 : decode cX6_point 21 = .ok (.invokevirtual 87, 3) := by decide +kernel
theorem dX6_point_24 : decode cX6_point 24 = .ok (.goto 6, 3) := by decide +kernel
theorem dX6_point_27 : decode cX6_point 27 = .ok (.sipush (-20001), 3) := by decide +kernel
theorem dX6_point_30 : decode cX6_point 30 = .ok (.ireturn, 1) := by decide +kernel
theorem dX6_points_0 : decode cX6_points 0 = .ok (.aload_n 0, 1) := by decide +kernel
theorem dX6_points_1 : decode cX6_points 1 = .ok (.getfield 7, 3) := by decide +kernel
theorem dX6_points_4 : decode cX6_points 4 = .ok (.iconst 0, 1) := by decide +kernel
theorem dX6_points_5 : decode cX6_points 5 = .ok (.iaload, 1) := by decide +kernel
theorem dX6_points_6 : decode cX6_points 6 = .ok (.ireturn, 1) := by decide +kernel
theorem dX6_states_0 : decode cX6_states 0 = .ok (.iload_n 1, 1) := by decide +kernel
theorem dX6_states_1 : decode cX6_states 1 = .ok (.iconst 0, 1) := by decide +kernel
theorem dX6_states_2 : decode cX6_states 2 = .ok (.iconst 3, 1) := by decide +kernel
theorem dX6_states_3 : decode cX6_states 3 = .ok (.invokestatic 32, 3) := by decide +kernel
theorem dX6_states_6 : decode cX6_states 6 = .ok (.ifCond .ne 7, 3) := by decide +kernel
theorem dX6_states_9 : decode cX6_states 9 = .ok (.sipush (-20001), 3) := by decide +kernel
theorem dX6_states_12 : decode cX6_states 12 = .ok (.ireturn, 1) := by decide +kernel
theorem dX6_states_13 : decode cX6_states 13 = .ok (.aload_n 0, 1) := by decide +kernel
theorem dX6_states_14 : decode cX6_states 14 = .ok (.getfield 7, 3) := by decide +kernel
theorem dX6_states_17 : decode cX6_states 17 = .ok (.iconst 2, 1) := by decide +kernel
theorem dX6_states_18 : decode cX6_states 18 = .ok (.iaload, 1) := by decide +kernel
theorem dX6_states_19 : decode cX6_states 19 = .ok (.istore_n 2, 1) := by decide +kernel
theorem dX6_states_20 : decode cX6_states 20 = .ok (.aload_n 0, 1) := by decide +kernel
theorem dX6_states_21 : decode cX6_states 21 = .ok (.getfield 7, 3) := by decide +kernel
theorem dX6_states_24 : decode cX6_states 24 = .ok (.iconst 2, 1) := by decide +kernel
theorem dX6_states_25 : decode cX6_states 25 = .ok (.iload_n 1, 1) := by decide +kernel
theorem dX6_states_26 : decode cX6_states 26 = .ok (.iastore, 1) := by decide +kernel
theorem dX6_states_27 : decode cX6_states 27 = .ok (.iload_n 2, 1) := by decide +kernel
theorem dX6_states_28 : decode cX6_states 28 = .ok (.ireturn, 1) := by decide +kernel
theorem dX6_setState_0 : decode cX6_setState 0 = .ok (.aload_n 0, 1) := by decide +kernel
theorem dX6_setState_1 : decode cX6_setState 1 = .ok (.getfield 7, 3) := by decide +kernel
theorem dX6_setState_4 : decode cX6_setState 4 = .ok (.aload_n 0, 1) := by decide +kernel
theorem dX6_setState_5 : decode cX6_setState 5 = .ok (.getfield 13, 3) := by decide +kernel
theorem dX6_setState_8 : decode cX6_setState 8 = .ok (.invokestatic 67, 3) := by decide +kernel
theorem dX6_setState_11 : decode cX6_setState 11 = .ok (.aload_n 0, 1) := by decide +kernel
theorem dX6_setState_12 : decode cX6_setState 12 = .ok (.aload_n 0, 1) := by decide +kernel
theorem dX6_setState_13 : decode cX6_setState 13 = .ok (.iload_n 1, 1) := by decide +kernel
theorem dX6_setState_14 : decode cX6_setState 14 = .ok (.invokevirtual 90, 3) := by decide +kernel
theorem dX6_setState_17 : decode cX6_setState 17 = .ok (.invokevirtual 74, 3) := by decide +kernel
theorem dX6_setState_20 : decode cX6_setState 20 = .ok (.ireturn, 1) := by decide +kernel
theorem dX6_setFlood_0 : decode cX6_setFlood 0 = .ok (.iload_n 1, 1) := by decide +kernel
theorem dX6_setFlood_1 : decode cX6_setFlood 1 = .ok (.iconst 1, 1) := by decide +kernel
theorem dX6_setFlood_2 : decode cX6_setFlood 2 = .ok (.bipush 60, 2) := by decide +kernel
theorem dX6_setFlood_4 : decode cX6_setFlood 4 = .ok (.invokestatic 32, 3) := by decide +kernel
theorem dX6_setFlood_7 : decode cX6_setFlood 7 = .ok (.ifCond .eq 22, 3) := by decide +kernel
theorem dX6_setFlood_10 : decode cX6_setFlood 10 = .ok (.iload_n 2, 1) := by decide +kernel
theorem dX6_setFlood_11 : decode cX6_setFlood 11 = .ok (.iconst 1, 1) := by decide +kernel
theorem dX6_setFlood_12 : decode cX6_setFlood 12 = .ok (.bipush 50, 2) := by decide +kernel
theorem dX6_setFlood_14 : decode cX6_setFlood 14 = .ok (.invokestatic 32, 3) := by decide +kernel
theorem dX6_setFlood_17 : decode cX6_setFlood 17 = .ok (.ifCond .eq 12, 3) := by decide +kernel
theorem dX6_setFlood_20 : decode cX6_setFlood 20 = .ok (.iload_n 3, 1) := by decide +kernel
theorem dX6_setFlood_21 : decode cX6_setFlood 21 = .ok (.iconst 0, 1) := by decide +kernel
theorem dX6_setFlood_22 : decode cX6_setFlood 22 = .ok (.iload_n 2, 1) := by decide +kernel
theorem dX6_setFlood_23 : decode cX6_setFlood 23 = .ok (.invokestatic 32, 3) := by decide +kernel
theorem dX6_setFlood_26 : decode cX6_setFlood 26 = .ok (.ifCond .ne 7, 3) := by decide +kernel
theorem dX6_setFlood_29 : decode cX6_setFlood 29 = .ok (.sipush (-20001), 3) := by decide +kernel
theorem dX6_setFlood_32 : decode cX6_setFlood 32 = .ok (.ireturn, 1) := by decide +kernel
theorem dX6_setFlood_33 : decode cX6_setFlood 33 = .ok (.aload_n 0, 1) := by decide +kernel
theorem dX6_setFlood_34 : decode cX6_setFlood 34 = .ok (.aload_n 0, 1) := by decide +kernel
theorem dX6_setFlood_35 : decode cX6_setFlood 35 = .ok (.getfield 7, 3) := by decide +kernel
theorem dX6_setFlood_38 : decode cX6_setFlood 38 = .ok (.invokevirtual 40, 3) := by decide +kernel
theorem dX6_setFlood_41 : decode cX6_setFlood 41 = .ok (.sipush 10000, 3) := by decide +kernel
theorem dX6_setFlood_44 : decode cX6_setFlood 44 = .ok (.aload_n 0, 1) := by decide +kernel
theorem dX6_setFlood_45 : decode cX6_setFlood 45 = .ok (.getfield 7, 3) := by decide +kernel
theorem dX6_setFlood_48 : decode cX6_setFlood 48 = .ok (.iconst 5, 1) := by decide +kernel
theorem dX6_setFlood_49 : decode cX6_setFlood 49 = .ok (.iaload, 1) := by decide +kernel
theorem dX6_setFlood_50 : decode cX6_setFlood 50 = .ok (.imul, 1) := by decide +kernel
theorem dX6_setFlood_51 : decode cX6_setFlood 51 = .ok (.bipush 100, 2) := by decide +kernel
theorem dX6_setFlood_53 : decode cX6_setFlood 53 = .ok (.aload_n 0, 1) := by decide +kernel
theorem dX6_setFlood_54 : decode cX6_setFlood 54 = .ok (.getfield 7, 3) := by decide +kernel
theorem dX6_setFlood_57 : decode cX6_setFlood 57 = .ok (.bipush 6, 2) := by decide +kernel
theorem dX6_setFlood_59 : decode cX6_setFlood 59 = .ok (.iaload, 1) := by decide +kernel
theorem dX6_setFlood_60 : decode cX6_setFlood 60 = .ok (.imul, 1) := by decide +kernel
theorem dX6_setFlood_61 : decode cX6_setFlood 61 = .ok (.iadd, 1) := by decide +kernel
theorem dX6_setFlood_62 : decode cX6_setFlood 62 = .ok (.aload_n 0, 1) := by decide +kernel
theorem dX6_setFlood_63 : decode cX6_setFlood 63 = .ok (.getfield 7, 3) := by decide +kernel
theorem dX6_setFlood_66 : decode cX6_setFlood 66 = .ok (.bipush 7, 2) := by decide +kernel
theorem dX6_setFlood_68 : decode cX6_setFlood 68 = .ok (.iaload, 1) := by decide +kernel
theorem dX6_setFlood_69 : decode cX6_setFlood 69 = .ok (.iadd, 1) := by decide +kernel
theorem dX6_setFlood_70 : decode cX6_setFlood 70 = .ok (.istore 4, 2) := by decide +kernel
theorem dX6_setFlood_72 : decode cX6_setFlood 72 = .ok (.aload_n 0, 1) := by decide +kernel
theorem dX6_setFlood_73 : decode cX6_setFlood 73 = .ok (.getfield 7, 3) := by decide +kernel
theorem dX6_setFlood_76 : decode cX6_setFlood 76 = .ok (.iconst 5, 1) := by decide +kernel
theorem dX6_setFlood_77 : decode cX6_setFlood 77 = .ok (.iload_n 1, 1) := by decide +kernel
theorem dX6_setFlood_78 : decode cX6_setFlood 78 = .ok (.iastore, 1) := by decide +kernel
theorem dX6_setFlood_79 : decode cX6_setFlood 79 = .ok (.aload_n 0, 1) := by decide +kernel
theorem dX6_setFlood_80 : decode cX6_setFlood 80 = .ok (.getfield 7, 3) := by decide +kernel
theorem dX6_setFlood_83 : decode cX6_setFlood 83 = .ok (.bipush 6, 2) := by decide +kernel
theorem dX6_setFlood_85 : decode cX6_setFlood 85 = .ok (.iload_n 2, 1) := by decide +kernel
theorem dX6_setFlood_86 : decode cX6_setFlood 86 = .ok (.iastore, 1) := by decide +kernel
theorem dX6_setFlood_87 : decode cX6_setFlood 87 = .ok (.aload_n 0, 1) := by decide +kernel
theorem dX6_setFlood_88 : decode cX6_setFlood 88 = .ok (.getfield 7, 3) := by decide +kernel
theorem dX6_setFlood_91 : decode cX6_setFlood 91 = .ok (.bipush 7, 2) := by decide +kernel
theorem dX6_setFlood_93 : decode cX6_setFlood 93 = .ok (.iload_n 3, 1) := by decide +kernel
theorem dX6_setFlood_94 : decode cX6_setFlood 94 = .ok (.iastore, 1) := by decide +kernel
theorem dX6_setFlood_95 : decode cX6_setFlood 95 = .ok (.iload 4, 2) := by decide +kernel
theorem dX6_setFlood_97 : decode cX6_setFlood 97 = .ok (.ireturn, 1) := by decide +kernel
theorem dX6_isOver_0 : decode cX6_isOver 0 = .ok (.iload_n 0, 1) := by decide +kernel
theorem dX6_isOver_1 : decode cX6_isOver 1 = .ok (.ifCond .ne 16, 3) := by decide +kernel
theorem dX6_isOver_4 : decode cX6_isOver 4 = .ok (.iload_n 2, 1) := by decide +kernel
theorem dX6_isOver_5 : decode cX6_isOver 5 = .ok (.iload_n 1, 1) := by decide +kernel
theorem dX6_isOver_6 : decode cX6_isOver 6 = .ok (.if_icmp .lt 7, 3) := by decide +kernel
theorem dX6_isOver_9 : decode cX6_isOver 9 = .ok (.iconst 1, 1) := by decide +kernel
theorem dX6_isOver_10 : decode cX6_isOver 10 = .ok (.goto 17, 3) := by decide +kernel
theorem dX6_isOver_13 : decode cX6_isOver 13 = .ok (.iconst 0, 1) := by decide +kernel
theorem dX6_isOver_14 : decode cX6_isOver 14 = .ok (.goto 13, 3) := by decide +kernel
theorem dX6_isOver_17 : decode cX6_isOver 17 = .ok (.iload_n 2, 1) := by decide +kernel
theorem dX6_isOver_18 : decode cX6_isOver 18 = .ok (.iload_n 1, 1) := by decide +kernel
theorem dX6_isOver_19 : decode cX6_isOver 19 = .ok (.if_icmp .gt 7, 3) := by decide +kernel
theorem dX6_isOver_22 : decode cX6_isOver 22 = .ok (.iconst 1, 1) := by decide +kernel
theorem dX6_isOver_23 : decode cX6_isOver 23 = .ok (.goto 4, 3) := by decide +kernel
theorem dX6_isOver_26 : decode cX6_isOver 26 = .ok (.iconst 0, 1) := by decide +kernel
theorem dX6_isOver_27 : decode cX6_isOver 27 = .ok (.ireturn, 1) := by decide +kernel
theorem dX6_isClear_0 : decode cX6_isClear 0 = .ok (.iload_n 2, 1) := by decide +kernel
theorem dX6_isClear_1 : decode cX6_isClear 1 = .ok (.ifCond .ne 20, 3) := by decide +kernel
theorem dX6_isClear_4 : decode cX6_isClear 4 = .ok (.iload_n 0, 1) := by decide +kernel
theorem dX6_isClear_5 : decode cX6_isClear 5 = .ok (.iload_n 1, 1) := by decide +kernel
theorem dX6_isClear_6 : decode cX6_isClear 6 = .ok (.iload_n 3, 1) := by decide +kernel
theorem dX6_isClear_7 : decode cX6_isClear 7 = .ok (.invokestatic 93, 3) := by decide +kernel
theorem dX6_isClear_10 : decode cX6_isClear 10 = .ok (.ifCond .ne 7, 3) := by decide +kernel
theorem dX6_isClear_13 : decode cX6_isClear 13 = .ok (.iconst 1, 1) := by decide +kernel
theorem dX6_isClear_14 : decode cX6_isClear 14 = .ok (.goto 38, 3) := by decide +kernel
theorem dX6_isClear_17 : decode cX6_isClear 17 = .ok (.iconst 0, 1) := by decide +kernel
theorem dX6_isClear_18 : decode cX6_isClear 18 = .ok (.goto 34, 3) := by decide +kernel
theorem dX6_isClear_21 : decode cX6_isClear 21 = .ok (.iload_n 0, 1) := by decide +kernel
theorem dX6_isClear_22 : decode cX6_isClear 22 = .ok (.ifCond .ne 18, 3) := by decide +kernel
theorem dX6_isClear_25 : decode cX6_isClear 25 = .ok (.iload_n 3, 1) := by decide +kernel
theorem dX6_isClear_26 : decode cX6_isClear 26 = .ok (.iload_n 1, 1) := by decide +kernel
theorem dX6_isClear_27 : decode cX6_isClear 27 = .ok (.iload_n 2, 1) := by decide +kernel
theorem dX6_isClear_28 : decode cX6_isClear 28 = .ok (.isub, 1) := by decide +kernel
theorem dX6_isClear_29 : decode cX6_isClear 29 = .ok (.if_icmp .ge 7, 3) := by decide +kernel
theorem dX6_isClear_32 : decode cX6_isClear 32 = .ok (.iconst 1, 1) := by decide +kernel
theorem dX6_isClear_33 : decode cX6_isClear 33 = .ok (.goto 19, 3) := by decide +kernel
theorem dX6_isClear_36 : decode cX6_isClear 36 = .ok (.iconst 0, 1) := by decide +kernel
theorem dX6_isClear_37 : decode cX6_isClear 37 = .ok (.goto 15, 3) := by decide +kernel
theorem dX6_isClear_40 : decode cX6_isClear 40 = .ok (.iload_n 3, 1) := by decide +kernel
theorem dX6_isClear_41 : decode cX6_isClear 41 = .ok (.iload_n 1, 1) := by decide +kernel
theorem dX6_isClear_42 : decode cX6_isClear 42 = .ok (.iload_n 2, 1) := by decide +kernel
theorem dX6_isClear_43 : decode cX6_isClear 43 = .ok (.iadd, 1) := by decide +kernel
theorem dX6_isClear_44 : decode cX6_isClear 44 = .ok (.if_icmp .le 7, 3) := by decide +kernel
theorem dX6_isClear_47 : decode cX6_isClear 47 = .ok (.iconst 1, 1) := by decide +kernel
theorem dX6_isClear_48 : decode cX6_isClear 48 = .ok (.goto 4, 3) := by decide +kernel
theorem dX6_isClear_51 : decode cX6_isClear 51 = .ok (.iconst 0, 1) := by decide +kernel
theorem dX6_isClear_52 : decode cX6_isClear 52 = .ok (.ireturn, 1) := by decide +kernel
theorem dX6_looks_0 : decode cX6_looks 0 = .ok (.aload_n 0, 1) := by decide +kernel
theorem dX6_looks_1 : decode cX6_looks 1 = .ok (.iload_n 1, 1) := by decide +kernel
theorem dX6_looks_2 : decode cX6_looks 2 = .ok (.bipush 9, 2) := by decide +kernel
theorem dX6_looks_4 : decode cX6_looks 4 = .ok (.invokevirtual 59, 3) := by decide +kernel
theorem dX6_looks_7 : decode cX6_looks 7 = .ok (.ifCond .ne 7, 3) := by decide +kernel
theorem dX6_looks_10 : decode cX6_looks 10 = .ok (.iconst 1, 1) := by decide +kernel
theorem dX6_looks_11 : decode cX6_looks 11 = .ok (.goto 4, 3) := by decide +kernel
theorem dX6_looks_14 : decode cX6_looks 14 = .ok (.iconst 0, 1) := by decide +kernel
theorem dX6_looks_15 : decode cX6_looks 15 = .ok (.istore_n 2, 1) := by decide +kernel
theorem dX6_looks_16 : decode cX6_looks 16 = .ok (.iload_n 2, 1) := by decide +kernel
theorem dX6_looks_17 : decode cX6_looks 17 = .ok (.ifCond .eq 28, 3) := by decide +kernel
theorem dX6_looks_20 : decode cX6_looks 20 = .ok (.aload_n 0, 1) := by decide +kernel
theorem dX6_looks_21 : decode cX6_looks 21 = .ok (.iload_n 1, 1) := by decide +kernel
theorem dX6_looks_22 : decode cX6_looks 22 = .ok (.iconst 0, 1) := by decide +kernel
theorem dX6_looks_23 : decode cX6_looks 23 = .ok (.invokevirtual 59, 3) := by decide +kernel
theorem dX6_looks_26 : decode cX6_looks 26 = .ok (.aload_n 0, 1) := by decide +kernel
theorem dX6_looks_27 : decode cX6_looks 27 = .ok (.iload_n 1, 1) := by decide +kernel
theorem dX6_looks_28 : decode cX6_looks 28 = .ok (.iconst 1, 1) := by decide +kernel
theorem dX6_looks_29 : decode cX6_looks 29 = .ok (.invokevirtual 59, 3) := by decide +kernel
theorem dX6_looks_32 : decode cX6_looks 32 = .ok (.aload_n 0, 1) := by decide +kernel
theorem dX6_looks_33 : decode cX6_looks 33 = .ok (.iload_n 1, 1) := by decide +kernel
theorem dX6_looks_34 : decode cX6_looks 34 = .ok (.bipush 7, 2) := by decide +kernel
theorem dX6_looks_36 : decode cX6_looks 36 = .ok (.invokevirtual 59, 3) := by decide +kernel
theorem dX6_looks_39 : decode cX6_looks 39 = .ok (.invokestatic 93, 3) := by decide +kernel
theorem dX6_looks_42 : decode cX6_looks 42 = .ok (.goto 31, 3) := by decide +kernel
theorem dX6_looks_45 : decode cX6_looks 45 = .ok (.aload_n 0, 1) := by decide +kernel
theorem dX6_looks_46 : decode cX6_looks 46 = .ok (.iload_n 1, 1) := by decide +kernel
theorem dX6_looks_47 : decode cX6_looks 47 = .ok (.iconst 0, 1) := by decide +kernel
theorem dX6_looks_48 : decode cX6_looks 48 = .ok (.invokevirtual 59, 3) := by decide +kernel
theorem dX6_looks_51 : decode cX6_looks 51 = .ok (.aload_n 0, 1) := by decide +kernel
theorem dX6_looks_52 : decode cX6_looks 52 = .ok (.iload_n 1, 1) := by decide +kernel
theorem dX6_looks_53 : decode cX6_looks 53 = .ok (.iconst 1, 1) := by decide +kernel
theorem dX6_looks_54 : decode cX6_looks 54 = .ok (.invokevirtual 59, 3) := by decide +kernel
theorem dX6_looks_57 : decode cX6_looks 57 = .ok (.aload_n 0, 1) := by decide +kernel
theorem dX6_looks_58 : decode cX6_looks 58 = .ok (.iload_n 1, 1) := by decide +kernel
theorem dX6_looks_59 : decode cX6_looks 59 = .ok (.iconst 2, 1) := by decide +kernel
theorem dX6_looks_60 : decode cX6_looks 60 = .ok (.invokevirtual 59, 3) := by decide +kernel
theorem dX6_looks_63 : decode cX6_looks 63 = .ok (.aload_n 0, 1) := by decide +kernel
theorem dX6_looks_64 : decode cX6_looks 64 = .ok (.iload_n 1, 1) := by decide +kernel
theorem dX6_looks_65 : decode cX6_looks 65 = .ok (.bipush 7, 2) := by decide +kernel
theorem dX6_looks_67 : decode cX6_looks 67 = .ok (.invokevirtual 59, 3) := by decide +kernel
theorem dX6_looks_70 : decode cX6_looks 70 = .ok (.invokestatic 96, 3) := by decide +kernel
theorem dX6_looks_73 : decode cX6_looks 73 = .ok (.istore_n 3, 1) := by decide +kernel
theorem dX6_looks_74 : decode cX6_looks 74 = .ok (.aload_n 0, 1) := by decide +kernel
theorem dX6_looks_75 : decode cX6_looks 75 = .ok (.iload_n 1, 1) := by decide +kernel
theorem dX6_looks_76 : decode cX6_looks 76 = .ok (.bipush 11, 2) := by decide +kernel
theorem dX6_looks_78 : decode cX6_looks 78 = .ok (.iload_n 3, 1) := by decide +kernel
theorem dX6_looks_79 : decode cX6_looks 79 = .ok (.ifCond .eq 15, 3) := by decide +kernel
theorem dX6_looks_82 : decode cX6_looks 82 = .ok (.aload_n 0, 1) := by decide +kernel
theorem dX6_looks_83 : decode cX6_looks 83 = .ok (.iload_n 1, 1) := by decide +kernel
theorem dX6_looks_84 : decode cX6_looks 84 = .ok (.bipush 11, 2) := by decide +kernel
theorem dX6_looks_86 : decode cX6_looks 86 = .ok (.invokevirtual 59, 3) := by decide +kernel
theorem dX6_looks_89 : decode cX6_looks 89 = .ok (.iconst 1, 1) := by decide +kernel
theorem dX6_looks_90 : decode cX6_looks 90 = .ok (.iadd, 1) := by decide +kernel
theorem dX6_looks_91 : decode cX6_looks 91 = .ok (.goto 4, 3) := by decide +kernel
theorem dX6_looks_94 : decode cX6_looks 94 = .ok (.iconst 0, 1) := by decide +kernel
theorem dX6_looks_95 : decode cX6_looks 95 = .ok (.invokevirtual 44, 3) := by decide +kernel
theorem dX6_looks_98 : decode cX6_looks 98 = .ok (.aload_n 0, 1) := by decide +kernel
theorem dX6_looks_99 : decode cX6_looks 99 = .ok (.iload_n 1, 1) := by decide +kernel
theorem dX6_looks_100 : decode cX6_looks 100 = .ok (.bipush 11, 2) := by decide +kernel
theorem dX6_looks_102 : decode cX6_looks 102 = .ok (.invokevirtual 59, 3) := by decide +kernel
theorem dX6_looks_105 : decode cX6_looks 105 = .ok (.aload_n 0, 1) := by decide +kernel
theorem dX6_looks_106 : decode cX6_looks 106 = .ok (.iload_n 1, 1) := by decide +kernel
theorem dX6_looks_107 : decode cX6_looks 107 = .ok (.iload_n 2, 1) := by decide +kernel
theorem dX6_looks_108 : decode cX6_looks 108 = .ok (.ifCond .eq 7, 3) := by decide +kernel
theorem dX6_looks_111 : decode cX6_looks 111 = .ok (.iconst 3, 1) := by decide +kernel
theorem dX6_looks_112 : decode cX6_looks 112 = .ok (.goto 4, 3) := by decide +kernel
theorem dX6_looks_115 : decode cX6_looks 115 = .ok (.iconst 4, 1) := by decide +kernel
theorem dX6_looks_116 : decode cX6_looks 116 = .ok (.invokevirtual 59, 3) := by decide +kernel
theorem dX6_looks_119 : decode cX6_looks 119 = .ok (.if_icmp .le 114, 3) := by decide +kernel
theorem dX6_looks_122 : decode cX6_looks 122 = .ok (.aload_n 0, 1) := by decide +kernel
theorem dX6_looks_123 : decode cX6_looks 123 = .ok (.iload_n 1, 1) := by decide +kernel
theorem dX6_looks_124 : decode cX6_looks 124 = .ok (.bipush 11, 2) := by decide +kernel
theorem dX6_looks_126 : decode cX6_looks 126 = .ok (.iconst 0, 1) := by decide +kernel
theorem dX6_looks_127 : decode cX6_looks 127 = .ok (.invokevirtual 44, 3) := by decide +kernel
theorem dX6_looks_130 : decode cX6_looks 130 = .ok (.aload_n 0, 1) := by decide +kernel
theorem dX6_looks_131 : decode cX6_looks 131 = .ok (.iload_n 1, 1) := by decide +kernel
theorem dX6_looks_132 : decode cX6_looks 132 = .ok (.bipush 9, 2) := by decide +kernel
theorem dX6_looks_134 : decode cX6_looks 134 = .ok (.iload_n 2, 1) := by decide +kernel
theorem dX6_looks_135 : decode cX6_looks 135 = .ok (.ifCond .eq 7, 3) := by decide +kernel
theorem dX6_looks_138 : decode cX6_looks 138 = .ok (.iconst 1, 1) := by decide +kernel
theorem dX6_looks_139 : decode cX6_looks 139 = .ok (.goto 4, 3) := by decide +kernel
theorem dX6_looks_142 : decode cX6_looks 142 = .ok (.iconst 0, 1) := by decide +kernel
theorem dX6_looks_143 : decode cX6_looks 143 = .ok (.invokevirtual 44, 3) := by decide +kernel
theorem dX6_looks_146 : decode cX6_looks 146 = .ok (.iload_n 2, 1) := by decide +kernel
theorem dX6_looks_147 : decode cX6_looks 147 = .ok (.ifCond .eq 72, 3) := by decide +kernel
theorem dX6_looks_150 : decode cX6_looks 150 = .ok (.aload_n 0, 1) := by decide +kernel
theorem dX6_looks_151 : decode cX6_looks 151 = .ok (.iload_n 1, 1) := by decide +kernel
theorem dX6_looks_152 : decode cX6_looks 152 = .ok (.bipush 10, 2) := by decide +kernel
theorem dX6_looks_154 : decode cX6_looks 154 = .ok (.iconst 0, 1) := by decide +kernel
theorem dX6_looks_155 : decode cX6_looks 155 = .ok (.invokevirtual 44, 3) := by decide +kernel
theorem dX6_looks_158 : decode cX6_looks 158 = .ok (.aload_n 0, 1) := by decide +kernel
theorem dX6_looks_159 : decode cX6_looks 159 = .ok (.iload_n 1, 1) := by decide +kernel
theorem dX6_looks_160 : decode cX6_looks 160 = .ok (.bipush 12, 2) := by decide +kernel
theorem dX6_looks_162 : decode cX6_looks 162 = .ok (.aload_n 0, 1) := by decide +kernel
theorem dX6_looks_163 : decode cX6_looks 163 = .ok (.getfield 7, 3) := by decide +kernel
theorem dX6_looks_166 : decode cX6_looks 166 = .ok (.iconst 1, 1) := by decide +kernel
theorem dX6_looks_167 : decode cX6_looks 167 = .ok (.iaload, 1) := by decide +kernel
theorem dX6_looks_168 : decode cX6_looks 168 = .ok (.invokevirtual 44, 3) := by decide +kernel
theorem dX6_looks_171 : decode cX6_looks 171 = .ok (.aload_n 0, 1) := by decide +kernel
theorem dX6_looks_172 : decode cX6_looks 172 = .ok (.iload_n 1, 1) := by decide +kernel
theorem dX6_looks_173 : decode cX6_looks 173 = .ok (.bipush 14, 2) := by decide +kernel
theorem dX6_looks_175 : decode cX6_looks 175 = .ok (.aload_n 0, 1) := by decide +kernel
theorem dX6_looks_176 : decode cX6_looks 176 = .ok (.iload_n 1, 1) := by decide +kernel
theorem dX6_looks_177 : decode cX6_looks 177 = .ok (.bipush 14, 2) := by decide +kernel
theorem dX6_looks_179 : decode cX6_looks 179 = .ok (.invokevirtual 59, 3) := by decide +kernel
theorem dX6_looks_182 : decode cX6_looks 182 = .ok (.iconst 1, 1) := by decide +kernel
theorem dX6_looks_183 : decode cX6_looks 183 = .ok (.iadd, 1) := by decide +kernel
theorem dX6_looks_184 : decode cX6_looks 184 = .ok (.invokevirtual 44, 3) := by decide +kernel
theorem dX6_looks_187 : decode cX6_looks 187 = .ok (.aload_n 0, 1) := by decide +kernel
theorem dX6_looks_188 : decode cX6_looks 188 = .ok (.getfield 7, 3) := by decide +kernel
theorem dX6_looks_191 : decode cX6_looks 191 = .ok (.bipush 8, 2) := by decide +kernel
theorem dX6_looks_193 : decode cX6_looks 193 = .ok (.dup2, 1) := by decide +kernel
theorem dX6_looks_194 : decode cX6_looks 194 = .ok (.iaload, 1) := by decide +kernel
theorem dX6_looks_195 : decode cX6_looks 195 = .ok (.iconst 1, 1) := by decide +kernel
theorem dX6_looks_196 : decode cX6_looks 196 = .ok (.iadd, 1) := by decide +kernel
theorem dX6_looks_197 : decode cX6_looks 197 = .ok (.iastore, 1) := by decide +kernel
theorem dX6_looks_198 : decode cX6_looks 198 = .ok (.aload_n 0, 1) := by decide +kernel
theorem dX6_looks_199 : decode cX6_looks 199 = .ok (.getfield 7, 3) := by decide +kernel
theorem dX6_looks_202 : decode cX6_looks 202 = .ok (.bipush 16, 2) := by decide +kernel
theorem dX6_looks_204 : decode cX6_looks 204 = .ok (.aload_n 0, 1) := by decide +kernel
theorem dX6_looks_205 : decode cX6_looks 205 = .ok (.getfield 7, 3) := by decide +kernel
theorem dX6_looks_208 : decode cX6_looks 208 = .ok (.iconst 1, 1) := by decide +kernel
theorem dX6_looks_209 : decode cX6_looks 209 = .ok (.iaload, 1) := by decide +kernel
theorem dX6_looks_210 : decode cX6_looks 210 = .ok (.bipush 64, 2) := by decide +kernel
theorem dX6_looks_212 : decode cX6_looks 212 = .ok (.irem, 1) := by decide +kernel
theorem dX6_looks_213 : decode cX6_looks 213 = .ok (.iadd, 1) := by decide +kernel
theorem dX6_looks_214 : decode cX6_looks 214 = .ok (.dup2, 1) := by decide +kernel
theorem dX6_looks_215 : decode cX6_looks 215 = .ok (.iaload, 1) := by decide +kernel
theorem dX6_looks_216 : decode cX6_looks 216 = .ok (.iconst 1, 1) := by decide +kernel
theorem dX6_looks_217 : decode cX6_looks 217 = .ok (.iadd, 1) := by decide +kernel
theorem dX6_looks_218 : decode cX6_looks 218 = .ok (.iastore, 1) := by decide +kernel
theorem dX6_looks_219 : decode cX6_looks 219 = .ok (.aload_n 0, 1) := by decide +kernel
theorem dX6_looks_220 : decode cX6_looks 220 = .ok (.iload_n 2, 1) := by decide +kernel
theorem dX6_looks_221 : decode cX6_looks 221 = .ok (.ifCond .eq 7, 3) := by decide +kernel
theorem dX6_looks_224 : decode cX6_looks 224 = .ok (.iconst 1, 1) := by decide +kernel
theorem dX6_looks_225 : decode cX6_looks 225 = .ok (.goto 4, 3) := by decide +kernel
theorem dX6_looks_228 : decode cX6_looks 228 = .ok (.iconst 2, 1) := by decide +kernel
theorem dX6_looks_229 : decode cX6_looks 229 = .ok (.iload_n 1, 1) := by decide +kernel
theorem dX6_looks_230 : decode cX6_looks 230 = .ok (.invokevirtual 48, 3) := by decide +kernel
theorem dX6_looks_233 : decode cX6_looks 233 = .ok (.return_, 1) := by decide +kernel
theorem dX6_rate_0 : decode cX6_rate 0 = .ok (.iconst 0, 1) := by decide +kernel
theorem dX6_rate_1 : decode cX6_rate 1 = .ok (.istore_n 1, 1) := by decide +kernel
theorem dX6_rate_2 : decode cX6_rate 2 = .ok (.aload_n 0, 1) := by decide +kernel
theorem dX6_rate_3 : decode cX6_rate 3 = .ok (.getfield 7, 3) := by decide +kernel
theorem dX6_rate_6 : decode cX6_rate 6 = .ok (.iconst 1, 1) := by decide +kernel
theorem dX6_rate_7 : decode cX6_rate 7 = .ok (.iaload, 1) := by decide +kernel
theorem dX6_rate_8 : decode cX6_rate 8 = .ok (.istore_n 2, 1) := by decide +kernel
theorem dX6_rate_9 : decode cX6_rate 9 = .ok (.iload_n 2, 1) := by decide +kernel
theorem dX6_rate_10 : decode cX6_rate 10 = .ok (.aload_n 0, 1) := by decide +kernel
theorem dX6_rate_11 : decode cX6_rate 11 = .ok (.getfield 7, 3) := by decide +kernel
theorem dX6_rate_14 : decode cX6_rate 14 = .ok (.iconst 1, 1) := by decide +kernel
theorem dX6_rate_15 : decode cX6_rate 15 = .ok (.iaload, 1) := by decide +kernel
theorem dX6_rate_16 : decode cX6_rate 16 = .ok (.aload_n 0, 1) := by decide +kernel
theorem dX6_rate_17 : decode cX6_rate 17 = .ok (.getfield 7, 3) := by decide +kernel
theorem dX6_rate_20 : decode cX6_rate 20 = .ok (.iconst 5, 1) := by decide +kernel
theorem dX6_rate_21 : decode cX6_rate 21 = .ok (.iaload, 1) := by decide +kernel
theorem dX6_rate_22 : decode cX6_rate 22 = .ok (.isub, 1) := by decide +kernel
theorem dX6_rate_23 : decode cX6_rate 23 = .ok (.if_icmp .le 28, 3) := by decide +kernel
theorem dX6_rate_26 : decode cX6_rate 26 = .ok (.iload_n 2, 1) := by decide +kernel
theorem dX6_rate_27 : decode cX6_rate 27 = .ok (.ifCond .le 24, 3) := by decide +kernel
theorem dX6_rate_30 : decode cX6_rate 30 = .ok (.iload_n 1, 1) := by decide +kernel
theorem dX6_rate_31 : decode cX6_rate 31 = .ok (.aload_n 0, 1) := by decide +kernel
theorem dX6_rate_32 : decode cX6_rate 32 = .ok (.getfield 7, 3) := by decide +kernel
theorem dX6_rate_35 : decode cX6_rate 35 = .ok (.bipush 16, 2) := by decide +kernel
theorem dX6_rate_37 : decode cX6_rate 37 = .ok (.iload_n 2, 1) := by decide +kernel
theorem dX6_rate_38 : decode cX6_rate 38 = .ok (.bipush 64, 2) := by decide +kernel
theorem dX6_rate_40 : decode cX6_rate 40 = .ok (.irem, 1) := by decide +kernel
theorem dX6_rate_41 : decode cX6_rate 41 = .ok (.iadd, 1) := by decide +kernel
theorem dX6_rate_42 : decode cX6_rate 42 = .ok (.iaload, 1) := by decide +kernel
theorem dX6_rate_43 : decode cX6_rate 43 = .ok (.iadd, 1) := by decide +kernel
theorem dX6_rate_44 : decode cX6_rate 44 = .ok (.istore_n 1, 1) := by decide +kernel
theorem dX6_rate_45 : decode cX6_rate 45 = .ok (.iinc 2 (-1), 3) := by decide +kernel
theorem dX6_rate_48 : decode cX6_rate 48 = .ok (.goto (-39), 3) := by decide +kernel
theorem dX6_rate_51 : decode cX6_rate 51 = .ok (.iload_n 1, 1) := by decide +kernel
theorem dX6_rate_52 : decode cX6_rate 52 = .ok (.ireturn, 1) := by decide +kernel
theorem dX6_ticksOnce_0 : decode cX6_ticksOnce 0 = .ok (.aload_n 0, 1) := by decide +kernel
theorem dX6_ticksOnce_1 : decode cX6_ticksOnce 1 = .ok (.getfield 7, 3) := by decide +kernel
theorem dX6_ticksOnce_4 : decode cX6_ticksOnce 4 = .ok (.iconst 1, 1) := by decide +kernel
theorem dX6_ticksOnce_5 : decode cX6_ticksOnce 5 = .ok (.dup2, 1) := by decide +kernel
theorem dX6_ticksOnce_6 : decode cX6_ticksOnce 6 = .ok (.iaload, 1) := by decide +kernel
theorem dX6_ticksOnce_7 : decode cX6_ticksOnce 7 = .ok (.iconst 1, 1) := by decide +kernel
theorem dX6_ticksOnce_8 : decode cX6_ticksOnce 8 = .ok (.iadd, 1) := by decide +kernel
theorem dX6_ticksOnce_9 : decode cX6_ticksOnce 9 = .ok (.iastore, 1) := by decide +kernel
theorem dX6_ticksOnce_10 : decode cX6_ticksOnce 10 = .ok (.aload_n 0, 1) := by decide +kernel
theorem dX6_ticksOnce_11 : decode cX6_ticksOnce 11 = .ok (.getfield 7, 3) := by decide +kernel
theorem dX6_ticksOnce_14 : decode cX6_ticksOnce 14 = .ok (.bipush 16, 2) := by decide +kernel
theorem dX6_ticksOnce_16 : decode cX6_ticksOnce 16 = .ok (.aload_n 0, 1) := by decide +kernel
theorem dX6_ticksOnce_17 : decode cX6_ticksOnce 17 = .ok (.getfield 7, 3) := by decide +kernel
theorem dX6_ticksOnce_20 : decode cX6_ticksOnce 20 = .ok (.iconst 1, 1) := by decide +kernel
theorem dX6_ticksOnce_21 : decode cX6_ticksOnce 21 = .ok (.iaload, 1) := by decide +kernel
theorem dX6_ticksOnce_22 : decode cX6_ticksOnce 22 = .ok (.bipush 64, 2) := by decide +kernel
theorem dX6_ticksOnce_24 : decode cX6_ticksOnce 24 = .ok (.irem, 1) := by decide +kernel
theorem dX6_ticksOnce_25 : decode cX6_ticksOnce 25 = .ok (.iadd, 1) := by decide +kernel
theorem dX6_ticksOnce_26 : decode cX6_ticksOnce 26 = .ok (.iconst 0, 1) := by decide +kernel
theorem dX6_ticksOnce_27 : decode cX6_ticksOnce 27 = .ok (.iastore, 1) := by decide +kernel
theorem dX6_ticksOnce_28 : decode cX6_ticksOnce 28 = .ok (.iconst 0, 1) := by decide +kernel
theorem dX6_ticksOnce_29 : decode cX6_ticksOnce 29 = .ok (.istore_n 1, 1) := by decide +kernel
theorem dX6_ticksOnce_30 : decode cX6_ticksOnce 30 = .ok (.iload_n 1, 1) := by decide +kernel
theorem dX6_ticksOnce_31 : decode cX6_ticksOnce 31 = .ok (.aload_n 0, 1) := by decide +kernel
theorem dX6_ticksOnce_32 : decode cX6_ticksOnce 32 = .ok (.getfield 7, 3) := by decide +kernel
theorem dX6_ticksOnce_35 : decode cX6_ticksOnce 35 = .ok (.iconst 0, 1) := by decide +kernel
theorem dX6_ticksOnce_36 : decode cX6_ticksOnce 36 = .ok (.iaload, 1) := by decide +kernel
theorem dX6_ticksOnce_37 : decode cX6_ticksOnce 37 = .ok (.if_icmp .ge 14, 3) := by decide +kernel
theorem dX6_ticksOnce_40 : decode cX6_ticksOnce 40 = .ok (.aload_n 0, 1) := by decide +kernel
theorem dX6_ticksOnce_41 : decode cX6_ticksOnce 41 = .ok (.iload_n 1, 1) := by decide +kernel
theorem dX6_ticksOnce_42 : decode cX6_ticksOnce 42 = .ok (.invokevirtual 100, 3) := by decide +kernel
theorem dX6_ticksOnce_45 : decode cX6_ticksOnce 45 = .ok (.iinc 1 1, 3) := by decide +kernel
theorem dX6_ticksOnce_48 : decode cX6_ticksOnce 48 = .ok (.goto (-18), 3) := by decide +kernel
theorem dX6_ticksOnce_51 : decode cX6_ticksOnce 51 = .ok (.iconst 0, 1) := by decide +kernel
theorem dX6_ticksOnce_52 : decode cX6_ticksOnce 52 = .ok (.istore_n 1, 1) := by decide +kernel
theorem dX6_ticksOnce_53 : decode cX6_ticksOnce 53 = .ok (.iload_n 1, 1) := by decide +kernel
theorem dX6_ticksOnce_54 : decode cX6_ticksOnce 54 = .ok (.aload_n 0, 1) := by decide +kernel
theorem dX6_ticksOnce_55 : decode cX6_ticksOnce 55 = .ok (.getfield 7, 3) := by decide +kernel
theorem dX6_ticksOnce_58 : decode cX6_ticksOnce 58 = .ok (.iconst 0, 1) := by decide +kernel
theorem dX6_ticksOnce_59 : decode cX6_ticksOnce 59 = .ok (.iaload, 1) := by decide +kernel
theorem dX6_ticksOnce_60 : decode cX6_ticksOnce 60 = .ok (.if_icmp .ge 40, 3) := by decide +kernel
theorem dX6_ticksOnce_63 : decode cX6_ticksOnce 63 = .ok (.aload_n 0, 1) := by decide +kernel
theorem dX6_ticksOnce_64 : decode cX6_ticksOnce 64 = .ok (.iload_n 1, 1) := by decide +kernel
theorem dX6_ticksOnce_65 : decode cX6_ticksOnce 65 = .ok (.bipush 13, 2) := by decide +kernel
theorem dX6_ticksOnce_67 : decode cX6_ticksOnce 67 = .ok (.invokevirtual 59, 3) := by decide +kernel
theorem dX6_ticksOnce_70 : decode cX6_ticksOnce 70 = .ok (.ifCond .le 24, 3) := by decide +kernel
theorem dX6_ticksOnce_73 : decode cX6_ticksOnce 73 = .ok (.aload_n 0, 1) := by decide +kernel
theorem dX6_ticksOnce_74 : decode cX6_ticksOnce 74 = .ok (.iload_n 1, 1) := by decide +kernel
theorem dX6_ticksOnce_75 : decode cX6_ticksOnce 75 = .ok (.bipush 13, 2) := by decide +kernel
theorem dX6_ticksOnce_77 : decode cX6_ticksOnce 77 = .ok (.invokevirtual 59, 3) := by decide +kernel
theorem dX6_ticksOnce_80 : decode cX6_ticksOnce 80 = .ok (.aload_n 0, 1) := by decide +kernel
theorem dX6_ticksOnce_81 : decode cX6_ticksOnce 81 = .ok (.getfield 7, 3) := by decide +kernel
theorem dX6_ticksOnce_84 : decode cX6_ticksOnce 84 = .ok (.iconst 1, 1) := by decide +kernel
theorem dX6_ticksOnce_85 : decode cX6_ticksOnce 85 = .ok (.iaload, 1) := by decide +kernel
theorem dX6_ticksOnce_86 : decode cX6_ticksOnce 86 = .ok (.if_icmp .gt 8, 3) := by decide +kernel
theorem dX6_ticksOnce_89 : decode cX6_ticksOnce 89 = .ok (.aload_n 0, 1) := by decide +kernel
theorem dX6_ticksOnce_90 : decode cX6_ticksOnce 90 = .ok (.iload_n 1, 1) := by decide +kernel
theorem dX6_ticksOnce_91 : decode cX6_ticksOnce 91 = .ok (.invokevirtual 63, 3) := by decide +kernel
theorem dX6_ticksOnce_94 : decode cX6_ticksOnce 94 = .ok (.iinc 1 1, 3) := by decide +kernel
theorem dX6_ticksOnce_97 : decode cX6_ticksOnce 97 = .ok (.goto (-44), 3) := by decide +kernel
theorem dX6_ticksOnce_100 : decode cX6_ticksOnce 100 = .ok (.aload_n 0, 1) := by decide +kernel
theorem dX6_ticksOnce_101 : decode cX6_ticksOnce 101 = .ok (.getfield 7, 3) := by decide +kernel
theorem dX6_ticksOnce_104 : decode cX6_ticksOnce 104 = .ok (.iconst 3, 1) := by decide +kernel
theorem dX6_ticksOnce_105 : decode cX6_ticksOnce 105 = .ok (.iaload, 1) := by decide +kernel
theorem dX6_ticksOnce_106 : decode cX6_ticksOnce 106 = .ok (.ifCond .ne 48, 3) := by decide +kernel
theorem dX6_ticksOnce_109 : decode cX6_ticksOnce 109 = .ok (.aload_n 0, 1) := by decide +kernel
theorem dX6_ticksOnce_110 : decode cX6_ticksOnce 110 = .ok (.invokevirtual 103, 3) := by decide +kernel
theorem dX6_ticksOnce_113 : decode cX6_ticksOnce 113 = .ok (.aload_n 0, 1) := by decide +kernel
theorem dX6_ticksOnce_114 : decode cX6_ticksOnce 114 = .ok (.getfield 7, 3) := by decide +kernel
theorem dX6_ticksOnce_117 : decode cX6_ticksOnce 117 = .ok (.bipush 6, 2) := by decide +kernel
theorem dX6_ticksOnce_119 : decode cX6_ticksOnce 119 = .ok (.iaload, 1) := by decide +kernel
theorem dX6_ticksOnce_120 : decode cX6_ticksOnce 120 = .ok (.if_icmp .le 34, 3) := by decide +kernel
theorem dX6_ticksOnce_123 : decode cX6_ticksOnce 123 = .ok (.aload_n 0, 1) := by decide +kernel
theorem dX6_ticksOnce_124 : decode cX6_ticksOnce 124 = .ok (.getfield 7, 3) := by decide +kernel
theorem dX6_ticksOnce_127 : decode cX6_ticksOnce 127 = .ok (.iconst 3, 1) := by decide +kernel
theorem dX6_ticksOnce_128 : decode cX6_ticksOnce 128 = .ok (.iconst 1, 1) := by decide +kernel
theorem dX6_ticksOnce_129 : decode cX6_ticksOnce 129 = .ok (.iastore, 1) := by decide +kernel
theorem dX6_ticksOnce_130 : decode cX6_ticksOnce 130 = .ok (.aload_n 0, 1) := by decide +kernel
theorem dX6_ticksOnce_131 : decode cX6_ticksOnce 131 = .ok (.getfield 7, 3) := by decide +kernel
theorem dX6_ticksOnce_134 : decode cX6_ticksOnce 134 = .ok (.iconst 4, 1) := by decide +kernel
theorem dX6_ticksOnce_135 : decode cX6_ticksOnce 135 = .ok (.aload_n 0, 1) := by decide +kernel
theorem dX6_ticksOnce_136 : decode cX6_ticksOnce 136 = .ok (.getfield 7, 3) := by decide +kernel
theorem dX6_ticksOnce_139 : decode cX6_ticksOnce 139 = .ok (.iconst 1, 1) := by decide +kernel
theorem dX6_ticksOnce_140 : decode cX6_ticksOnce 140 = .ok (.iaload, 1) := by decide +kernel
theorem dX6_ticksOnce_141 : decode cX6_ticksOnce 141 = .ok (.iastore, 1) := by decide +kernel
theorem dX6_ticksOnce_142 : decode cX6_ticksOnce 142 = .ok (.aload_n 0, 1) := by decide +kernel
theorem dX6_ticksOnce_143 : decode cX6_ticksOnce 143 = .ok (.bipush 6, 2) := by decide +kernel
theorem dX6_ticksOnce_145 : decode cX6_ticksOnce 145 = .ok (.sipush (-20009), 3) := by decide +kernel
theorem dX6_ticksOnce_148 : decode cX6_ticksOnce 148 = .ok (.invokevirtual 48, 3) := by decide +kernel
theorem dX6_ticksOnce_151 : decode cX6_ticksOnce 151 = .ok (.goto 43, 3) := by decide +kernel
theorem dX6_ticksOnce_154 : decode cX6_ticksOnce 154 = .ok (.aload_n 0, 1) := by decide +kernel
theorem dX6_ticksOnce_155 : decode cX6_ticksOnce 155 = .ok (.getfield 7, 3) := by decide +kernel
theorem dX6_ticksOnce_158 : decode cX6_ticksOnce 158 = .ok (.iconst 3, 1) := by decide +kernel
theorem dX6_ticksOnce_159 : decode cX6_ticksOnce 159 = .ok (.iaload, 1) := by decide +kernel
theorem dX6_ticksOnce_160 : decode cX6_ticksOnce 160 = .ok (.iconst 1, 1) := by decide +kernel
theorem dX6_ticksOnce_161 : decode cX6_ticksOnce 161 = .ok (.if_icmp .ne 33, 3) := by decide +kernel
theorem dX6_ticksOnce_164 : decode cX6_ticksOnce 164 = .ok (.aload_n 0, 1) := by decide +kernel
theorem dX6_ticksOnce_165 : decode cX6_ticksOnce 165 = .ok (.invokevirtual 103, 3) := by decide +kernel
theorem dX6_ticksOnce_168 : decode cX6_ticksOnce 168 = .ok (.aload_n 0, 1) := by decide +kernel
theorem dX6_ticksOnce_169 : decode cX6_ticksOnce 169 = .ok (.getfield 7, 3) := by decide +kernel
theorem dX6_ticksOnce_172 : decode cX6_ticksOnce 172 = .ok (.bipush 7, 2) := by decide +kernel
theorem dX6_ticksOnce_174 : decode cX6_ticksOnce 174 = .ok (.iaload, 1) := by decide +kernel
theorem dX6_ticksOnce_175 : decode cX6_ticksOnce 175 = .ok (.if_icmp .gt 19, 3) := by decide +kernel
theorem dX6_ticksOnce_178 : decode cX6_ticksOnce 178 = .ok (.aload_n 0, 1) := by decide +kernel
theorem dX6_ticksOnce_179 : decode cX6_ticksOnce 179 = .ok (.getfield 7, 3) := by decide +kernel
theorem dX6_ticksOnce_182 : decode cX6_ticksOnce 182 = .ok (.iconst 3, 1) := by decide +kernel
theorem dX6_ticksOnce_183 : decode cX6_ticksOnce 183 = .ok (.iconst 0, 1) := by decide +kernel
theorem dX6_ticksOnce_184 : decode cX6_ticksOnce 184 = .ok (.iastore, 1) := by decide +kernel
theorem dX6_ticksOnce_185 : decode cX6_ticksOnce 185 = .ok (.aload_n 0, 1) := by decide +kernel
theorem dX6_ticksOnce_186 : decode cX6_ticksOnce 186 = .ok (.bipush 7, 2) := by decide +kernel
theorem dX6_ticksOnce_188 : decode cX6_ticksOnce 188 = .ok (.sipush (-20009), 3) := by decide +kernel
theorem dX6_ticksOnce_191 : decode cX6_ticksOnce 191 = .ok (.invokevirtual 48, 3) := by decide +kernel
theorem dX6_ticksOnce_194 : decode cX6_ticksOnce 194 = .ok (.iconst 0, 1) := by decide +kernel
theorem dX6_ticksOnce_195 : decode cX6_ticksOnce 195 = .ok (.istore_n 1, 1) := by decide +kernel
theorem dX6_ticksOnce_196 : decode cX6_ticksOnce 196 = .ok (.iload_n 1, 1) := by decide +kernel
theorem dX6_ticksOnce_197 : decode cX6_ticksOnce 197 = .ok (.aload_n 0, 1) := by decide +kernel
theorem dX6_ticksOnce_198 : decode cX6_ticksOnce 198 = .ok (.getfield 7, 3) := by decide +kernel
theorem dX6_ticksOnce_201 : decode cX6_ticksOnce 201 = .ok (.iconst 0, 1) := by decide +kernel
theorem dX6_ticksOnce_202 : decode cX6_ticksOnce 202 = .ok (.iaload, 1) := by decide +kernel
theorem dX6_ticksOnce_203 : decode cX6_ticksOnce 203 = .ok (.if_icmp .ge 50, 3) := by decide +kernel
theorem dX6_ticksOnce_206 : decode cX6_ticksOnce 206 = .ok (.aload_n 0, 1) := by decide +kernel
theorem dX6_ticksOnce_207 : decode cX6_ticksOnce 207 = .ok (.iload_n 1, 1) := by decide +kernel
theorem dX6_ticksOnce_208 : decode cX6_ticksOnce 208 = .ok (.bipush 16, 2) := by decide +kernel
theorem dX6_ticksOnce_210 : decode cX6_ticksOnce 210 = .ok (.aload_n 0, 1) := by decide +kernel
theorem dX6_ticksOnce_211 : decode cX6_ticksOnce 211 = .ok (.iload_n 1, 1) := by decide +kernel
theorem dX6_ticksOnce_212 : decode cX6_ticksOnce 212 = .ok (.bipush 15, 2) := by decide +kernel
theorem dX6_ticksOnce_214 : decode cX6_ticksOnce 214 = .ok (.invokevirtual 59, 3) := by decide +kernel
theorem dX6_ticksOnce_217 : decode cX6_ticksOnce 217 = .ok (.bipush 40, 2) := by decide +kernel
theorem dX6_ticksOnce_219 : decode cX6_ticksOnce 219 = .ok (.irem, 1) := by decide +kernel
theorem dX6_ticksOnce_220 : decode cX6_ticksOnce 220 = .ok (.iadd, 1) := by decide +kernel
theorem dX6_ticksOnce_221 : decode cX6_ticksOnce 221 = .ok (.aload_n 0, 1) := by decide +kernel
theorem dX6_ticksOnce_222 : decode cX6_ticksOnce 222 = .ok (.iload_n 1, 1) := by decide +kernel
theorem dX6_ticksOnce_223 : decode cX6_ticksOnce 223 = .ok (.bipush 7, 2) := by decide +kernel
theorem dX6_ticksOnce_225 : decode cX6_ticksOnce 225 = .ok (.invokevirtual 59, 3) := by decide +kernel
theorem dX6_ticksOnce_228 : decode cX6_ticksOnce 228 = .ok (.invokevirtual 44, 3) := by decide +kernel
theorem dX6_ticksOnce_231 : decode cX6_ticksOnce 231 = .ok (.aload_n 0, 1) := by decide +kernel
theorem dX6_ticksOnce_232 : decode cX6_ticksOnce 232 = .ok (.iload_n 1, 1) := by decide +kernel
theorem dX6_ticksOnce_233 : decode cX6_ticksOnce 233 = .ok (.bipush 15, 2) := by decide +kernel
theorem dX6_ticksOnce_235 : decode cX6_ticksOnce 235 = .ok (.aload_n 0, 1) := by decide +kernel
theorem dX6_ticksOnce_236 : decode cX6_ticksOnce 236 = .ok (.iload_n 1, 1) := by decide +kernel
theorem dX6_ticksOnce_237 : decode cX6_ticksOnce 237 = .ok (.bipush 15, 2) := by decide +kernel
theorem dX6_ticksOnce_239 : decode cX6_ticksOnce 239 = .ok (.invokevirtual 59, 3) := by decide +kernel
theorem dX6_ticksOnce_242 : decode cX6_ticksOnce 242 = .ok (.iconst 1, 1) := by decide +kernel
theorem dX6_ticksOnce_243 : decode cX6_ticksOnce 243 = .ok (.iadd, 1) := by decide +kernel
theorem dX6_ticksOnce_244 : decode cX6_ticksOnce 244 = .ok (.invokevirtual 44, 3) := by decide +kernel
theorem dX6_ticksOnce_247 : decode cX6_ticksOnce 247 = .ok (.iinc 1 1, 3) := by decide +kernel
theorem dX6_ticksOnce_250 : decode cX6_ticksOnce 250 = .ok (.goto (-54), 3) := by decide +kernel
theorem dX6_ticksOnce_253 : decode cX6_ticksOnce 253 = .ok (.return_, 1) := by decide +kernel
theorem dX6_ticks_0 : decode cX6_ticks 0 = .ok (.iload_n 1, 1) := by decide +kernel
theorem dX6_ticks_1 : decode cX6_ticks 1 = .ok (.iconst 1, 1) := by decide +kernel
theorem dX6_ticks_2 : decode cX6_ticks 2 = .ok (.bipush 100, 2) := by decide +kernel
theorem dX6_ticks_4 : decode cX6_ticks 4 = .ok (.invokestatic 32, 3) := by decide +kernel
theorem dX6_ticks_7 : decode cX6_ticks 7 = .ok (.ifCond .ne 7, 3) := by decide +kernel
theorem dX6_ticks_10 : decode cX6_ticks 10 = .ok (.sipush (-20001), 3) := by decide +kernel
theorem dX6_ticks_13 : decode cX6_ticks 13 = .ok (.ireturn, 1) := by decide +kernel
theorem dX6_ticks_14 : decode cX6_ticks 14 = .ok (.aload_n 0, 1) := by decide +kernel
theorem dX6_ticks_15 : decode cX6_ticks 15 = .ok (.getfield 7, 3) := by decide +kernel
theorem dX6_ticks_18 : decode cX6_ticks 18 = .ok (.iconst 1, 1) := by decide +kernel
theorem dX6_ticks_19 : decode cX6_ticks 19 = .ok (.iaload, 1) := by decide +kernel
theorem dX6_ticks_20 : decode cX6_ticks 20 = .ok (.iload_n 1, 1) := by decide +kernel
theorem dX6_ticks_21 : decode cX6_ticks 21 = .ok (.iadd, 1) := by decide +kernel
theorem dX6_ticks_22 : decode cX6_ticks 22 = .ok (.sipush 10000, 3) := by decide +kernel
theorem dX6_ticks_25 : decode cX6_ticks 25 = .ok (.if_icmp .le 7, 3) := by decide +kernel
theorem dX6_ticks_28 : decode cX6_ticks 28 = .ok (.sipush (-20002), 3) := by decide +kernel
theorem dX6_ticks_31 : decode cX6_ticks 31 = .ok (.ireturn, 1) := by decide +kernel
theorem dX6_ticks_32 : decode cX6_ticks 32 = .ok (.iconst 0, 1) := by decide +kernel
theorem dX6_ticks_33 : decode cX6_ticks 33 = .ok (.istore_n 2, 1) := by decide +kernel
theorem dX6_ticks_34 : decode cX6_ticks 34 = .ok (.iload_n 2, 1) := by decide +kernel
theorem dX6_ticks_35 : decode cX6_ticks 35 = .ok (.iload_n 1, 1) := by decide +kernel
theorem dX6_ticks_36 : decode cX6_ticks 36 = .ok (.if_icmp .ge 13, 3) := by decide +kernel
theorem dX6_ticks_39 : decode cX6_ticks 39 = .ok (.aload_n 0, 1) := by decide +kernel
theorem dX6_ticks_40 : decode cX6_ticks 40 = .ok (.invokevirtual 107, 3) := by decide +kernel
theorem dX6_ticks_43 : decode cX6_ticks 43 = .ok (.iinc 2 1, 3) := by decide +kernel
theorem dX6_ticks_46 : decode cX6_ticks 46 = .ok (.goto (-12), 3) := by decide +kernel
theorem dX6_ticks_49 : decode cX6_ticks 49 = .ok (.aload_n 0, 1) := by decide +kernel
theorem dX6_ticks_50 : decode cX6_ticks 50 = .ok (.getfield 7, 3) := by decide +kernel
theorem dX6_ticks_53 : decode cX6_ticks 53 = .ok (.iconst 1, 1) := by decide +kernel
theorem dX6_ticks_54 : decode cX6_ticks 54 = .ok (.iaload, 1) := by decide +kernel
theorem dX6_ticks_55 : decode cX6_ticks 55 = .ok (.ireturn, 1) := by decide +kernel
theorem dX6_tick_0 : decode cX6_tick 0 = .ok (.aload_n 0, 1) := by decide +kernel
theorem dX6_tick_1 : decode cX6_tick 1 = .ok (.getfield 7, 3) := by decide +kernel
theorem dX6_tick_4 : decode cX6_tick 4 = .ok (.aload_n 0, 1) := by decide +kernel
theorem dX6_tick_5 : decode cX6_tick 5 = .ok (.getfield 13, 3) := by decide +kernel
theorem dX6_tick_8 : decode cX6_tick 8 = .ok (.invokestatic 67, 3) := by decide +kernel
theorem dX6_tick_11 : decode cX6_tick 11 = .ok (.aload_n 0, 1) := by decide +kernel
theorem dX6_tick_12 : decode cX6_tick 12 = .ok (.aload_n 0, 1) := by decide +kernel
theorem dX6_tick_13 : decode cX6_tick 13 = .ok (.iload_n 1, 1) := by decide +kernel
theorem dX6_tick_14 : decode cX6_tick 14 = .ok (.invokevirtual 110, 3) := by decide +kernel
theorem dX6_tick_17 : decode cX6_tick 17 = .ok (.invokevirtual 74, 3) := by decide +kernel
theorem dX6_tick_20 : decode cX6_tick 20 = .ok (.ireturn, 1) := by decide +kernel
theorem dX6_plant_0 : decode cX6_plant 0 = .ok (.iload_n 1, 1) := by decide +kernel
theorem dX6_plant_1 : decode cX6_plant 1 = .ok (.iconst 0, 1) := by decide +kernel
theorem dX6_plant_2 : decode cX6_plant 2 = .ok (.iconst 4, 1) := by decide +kernel
theorem dX6_plant_3 : decode cX6_plant 3 = .ok (.invokestatic 32, 3) := by decide +kernel
theorem dX6_plant_6 : decode cX6_plant 6 = .ok (.ifCond .ne 7, 3) := by decide +kernel
theorem dX6_plant_9 : decode cX6_plant 9 = .ok (.sipush (-20001), 3) := by decide +kernel
theorem dX6_plant_12 : decode cX6_plant 12 = .ok (.ireturn, 1) := by decide +kernel
theorem dX6_plant_13 : decode cX6_plant 13 = .ok (.iload_n 1, 1) := by decide +kernel
theorem dX6_plant_14 : decode cX6_plant 14 = .ok (.ifCond .ne 12, 3) := by decide +kernel
theorem dX6_plant_17 : decode cX6_plant 17 = .ok (.aload_n 0, 1) := by decide +kernel
theorem dX6_plant_18 : decode cX6_plant 18 = .ok (.getfield 7, 3) := by decide +kernel
theorem dX6_plant_21 : decode cX6_plant 21 = .ok (.iconst 1, 1) := by decide +kernel
theorem dX6_plant_22 : decode cX6_plant 22 = .ok (.iaload, 1) := by decide +kernel
theorem dX6_plant_23 : decode cX6_plant 23 = .ok (.goto 50, 3) := by decide +kernel
theorem dX6_plant_26 : decode cX6_plant 26 = .ok (.iload_n 1, 1) := by decide +kernel
theorem dX6_plant_27 : decode cX6_plant 27 = .ok (.iconst 1, 1) := by decide +kernel
theorem dX6_plant_28 : decode cX6_plant 28 = .ok (.if_icmp .ne 12, 3) := by decide +kernel
theorem dX6_plant_31 : decode cX6_plant 31 = .ok (.aload_n 0, 1) := by decide +kernel
theorem dX6_plant_32 : decode cX6_plant 32 = .ok (.getfield 7, 3) := by decide +kernel
theorem dX6_plant_35 : decode cX6_plant 35 = .ok (.iconst 2, 1) := by decide +kernel
theorem dX6_plant_36 : decode cX6_plant 36 = .ok (.iaload, 1) := by decide +kernel
theorem dX6_plant_37 : decode cX6_plant 37 = .ok (.goto 36, 3) := by decide +kernel
theorem dX6_plant_40 : decode cX6_plant 40 = .ok (.iload_n 1, 1) := by decide +kernel
theorem dX6_plant_41 : decode cX6_plant 41 = .ok (.iconst 2, 1) := by decide +kernel
theorem dX6_plant_42 : decode cX6_plant 42 = .ok (.if_icmp .ne 12, 3) := by decide +kernel
theorem dX6_plant_45 : decode cX6_plant 45 = .ok (.aload_n 0, 1) := by decide +kernel
theorem dX6_plant_46 : decode cX6_plant 46 = .ok (.getfield 7, 3) := by decide +kernel
theorem dX6_plant_49 : decode cX6_plant 49 = .ok (.iconst 3, 1) := by decide +kernel
theorem dX6_plant_50 : decode cX6_plant 50 = .ok (.iaload, 1) := by decide +kernel
theorem dX6_plant_51 : decode cX6_plant 51 = .ok (.goto 22, 3) := by decide +kernel
theorem dX6_plant_54 : decode cX6_plant 54 = .ok (.iload_n 1, 1) := by decide +kernel
theorem dX6_plant_55 : decode cX6_plant 55 = .ok (.iconst 3, 1) := by decide +kernel
theorem dX6_plant_56 : decode cX6_plant 56 = .ok (.if_icmp .ne 10, 3) := by decide +kernel
theorem dX6_plant_59 : decode cX6_plant 59 = .ok (.aload_n 0, 1) := by decide +kernel
theorem dX6_plant_60 : decode cX6_plant 60 = .ok (.invokevirtual 103, 3) := by decide +kernel
theorem dX6_plant_63 : decode cX6_plant 63 = .ok (.goto 10, 3) := by decide +kernel
theorem dX6_plant_66 : decode cX6_plant 66 = .ok (.aload_n 0, 1) := by decide +kernel
theorem dX6_plant_67 : decode cX6_plant 67 = .ok (.getfield 7, 3) := by decide +kernel
theorem dX6_plant_70 : decode cX6_plant 70 = .ok (.bipush 8, 2) := by decide +kernel
theorem dX6_plant_72 : decode cX6_plant 72 = .ok (.iaload, 1) := by decide +kernel
theorem dX6_plant_73 : decode cX6_plant 73 = .ok (.ireturn, 1) := by decide +kernel
theorem dX6_acks_0 : decode cX6_acks 0 = .ok (.aload_n 0, 1) := by decide +kernel
theorem dX6_acks_1 : decode cX6_acks 1 = .ok (.iload_n 1, 1) := by decide +kernel
theorem dX6_acks_2 : decode cX6_acks 2 = .ok (.invokevirtual 52, 3) := by decide +kernel
theorem dX6_acks_5 : decode cX6_acks 5 = .ok (.ifCond .ne 7, 3) := by decide +kernel
theorem dX6_acks_8 : decode cX6_acks 8 = .ok (.sipush (-20001), 3) := by decide +kernel
theorem dX6_acks_11 : decode cX6_acks 11 = .ok (.ireturn, 1) := by decide +kernel
theorem dX6_acks_12 : decode cX6_acks 12 = .ok (.aload_n 0, 1) := by decide +kernel
theorem dX6_acks_13 : decode cX6_acks 13 = .ok (.iload_n 1, 1) := by decide +kernel
theorem dX6_acks_14 : decode cX6_acks 14 = .ok (.bipush 10, 2) := by decide +kernel
theorem dX6_acks_16 : decode cX6_acks 16 = .ok (.invokevirtual 59, 3) := by decide +kernel
theorem dX6_acks_19 : decode cX6_acks 19 = .ok (.iconst 1, 1) := by decide +kernel
theorem dX6_acks_20 : decode cX6_acks 20 = .ok (.if_icmp .ne 7, 3) := by decide +kernel
theorem dX6_acks_23 : decode cX6_acks 23 = .ok (.sipush (-20002), 3) := by decide +kernel
theorem dX6_acks_26 : decode cX6_acks 26 = .ok (.ireturn, 1) := by decide +kernel
theorem dX6_acks_27 : decode cX6_acks 27 = .ok (.aload_n 0, 1) := by decide +kernel
theorem dX6_acks_28 : decode cX6_acks 28 = .ok (.iload_n 1, 1) := by decide +kernel
theorem dX6_acks_29 : decode cX6_acks 29 = .ok (.bipush 10, 2) := by decide +kernel
theorem dX6_acks_31 : decode cX6_acks 31 = .ok (.iconst 1, 1) := by decide +kernel
theorem dX6_acks_32 : decode cX6_acks 32 = .ok (.invokevirtual 44, 3) := by decide +kernel
theorem dX6_acks_35 : decode cX6_acks 35 = .ok (.aload_n 0, 1) := by decide +kernel
theorem dX6_acks_36 : decode cX6_acks 36 = .ok (.getfield 7, 3) := by decide +kernel
theorem dX6_acks_39 : decode cX6_acks 39 = .ok (.iconst 1, 1) := by decide +kernel
theorem dX6_acks_40 : decode cX6_acks 40 = .ok (.iaload, 1) := by decide +kernel
theorem dX6_acks_41 : decode cX6_acks 41 = .ok (.aload_n 0, 1) := by decide +kernel
theorem dX6_acks_42 : decode cX6_acks 42 = .ok (.iload_n 1, 1) := by decide +kernel
theorem dX6_acks_43 : decode cX6_acks 43 = .ok (.bipush 12, 2) := by decide +kernel
theorem dX6_acks_45 : decode cX6_acks 45 = .ok (.invokevirtual 59, 3) := by decide +kernel
theorem dX6_acks_48 : decode cX6_acks 48 = .ok (.isub, 1) := by decide +kernel
theorem dX6_acks_49 : decode cX6_acks 49 = .ok (.istore_n 2, 1) := by decide +kernel
theorem dX6_acks_50 : decode cX6_acks 50 = .ok (.aload_n 0, 1) := by decide +kernel
theorem dX6_acks_51 : decode cX6_acks 51 = .ok (.getfield 7, 3) := by decide +kernel
theorem dX6_acks_54 : decode cX6_acks 54 = .ok (.bipush 10, 2) := by decide +kernel
theorem dX6_acks_56 : decode cX6_acks 56 = .ok (.dup2, 1) := by decide +kernel
theorem dX6_acks_57 : decode cX6_acks 57 = .ok (.iaload, 1) := by decide +kernel
theorem dX6_acks_58 : decode cX6_acks 58 = .ok (.iload_n 2, 1) := by decide +kernel
theorem dX6_acks_59 : decode cX6_acks 59 = .ok (.iadd, 1) := by decide +kernel
theorem dX6_acks_60 : decode cX6_acks 60 = .ok (.iastore, 1) := by decide +kernel
theorem dX6_acks_61 : decode cX6_acks 61 = .ok (.aload_n 0, 1) := by decide +kernel
theorem dX6_acks_62 : decode cX6_acks 62 = .ok (.getfield 7, 3) := by decide +kernel
theorem dX6_acks_65 : decode cX6_acks 65 = .ok (.bipush 11, 2) := by decide +kernel
theorem dX6_acks_67 : decode cX6_acks 67 = .ok (.dup2, 1) := by decide +kernel
theorem dX6_acks_68 : decode cX6_acks 68 = .ok (.iaload, 1) := by decide +kernel
theorem dX6_acks_69 : decode cX6_acks 69 = .ok (.iconst 1, 1) := by decide +kernel
theorem dX6_acks_70 : decode cX6_acks 70 = .ok (.iadd, 1) := by decide +kernel
theorem dX6_acks_71 : decode cX6_acks 71 = .ok (.iastore, 1) := by decide +kernel
theorem dX6_acks_72 : decode cX6_acks 72 = .ok (.aload_n 0, 1) := by decide +kernel
theorem dX6_acks_73 : decode cX6_acks 73 = .ok (.iconst 3, 1) := by decide +kernel
theorem dX6_acks_74 : decode cX6_acks 74 = .ok (.iload_n 1, 1) := by decide +kernel
theorem dX6_acks_75 : decode cX6_acks 75 = .ok (.invokevirtual 48, 3) := by decide +kernel
theorem dX6_acks_78 : decode cX6_acks 78 = .ok (.iload_n 2, 1) := by decide +kernel
theorem dX6_acks_79 : decode cX6_acks 79 = .ok (.ireturn, 1) := by decide +kernel
theorem dX6_ack_0 : decode cX6_ack 0 = .ok (.aload_n 0, 1) := by decide +kernel
theorem dX6_ack_1 : decode cX6_ack 1 = .ok (.getfield 7, 3) := by decide +kernel
theorem dX6_ack_4 : decode cX6_ack 4 = .ok (.aload_n 0, 1) := by decide +kernel
theorem dX6_ack_5 : decode cX6_ack 5 = .ok (.getfield 13, 3) := by decide +kernel
theorem dX6_ack_8 : decode cX6_ack 8 = .ok (.invokestatic 67, 3) := by decide +kernel
theorem dX6_ack_11 : decode cX6_ack 11 = .ok (.aload_n 0, 1) := by decide +kernel
theorem dX6_ack_12 : decode cX6_ack 12 = .ok (.aload_n 0, 1) := by decide +kernel
theorem dX6_ack_13 : decode cX6_ack 13 = .ok (.iload_n 1, 1) := by decide +kernel
theorem dX6_ack_14 : decode cX6_ack 14 = .ok (.invokevirtual 113, 3) := by decide +kernel
theorem dX6_ack_17 : decode cX6_ack 17 = .ok (.invokevirtual 74, 3) := by decide +kernel
theorem dX6_ack_20 : decode cX6_ack 20 = .ok (.ireturn, 1) := by decide +kernel
theorem dX6_isAhead_0 : decode cX6_isAhead 0 = .ok (.aload_n 0, 1) := by decide +kernel
theorem dX6_isAhead_1 : decode cX6_isAhead 1 = .ok (.iload_n 1, 1) := by decide +kernel
theorem dX6_isAhead_2 : decode cX6_isAhead 2 = .ok (.iconst 5, 1) := by decide +kernel
theorem dX6_isAhead_3 : decode cX6_isAhead 3 = .ok (.invokevirtual 59, 3) := by decide +kernel
theorem dX6_isAhead_6 : decode cX6_isAhead 6 = .ok (.aload_n 0, 1) := by decide +kernel
theorem dX6_isAhead_7 : decode cX6_isAhead 7 = .ok (.iload_n 2, 1) := by decide +kernel
theorem dX6_isAhead_8 : decode cX6_isAhead 8 = .ok (.iconst 5, 1) := by decide +kernel
theorem dX6_isAhead_9 : decode cX6_isAhead 9 = .ok (.invokevirtual 59, 3) := by decide +kernel
theorem dX6_isAhead_12 : decode cX6_isAhead 12 = .ok (.isub, 1) := by decide +kernel
theorem dX6_isAhead_13 : decode cX6_isAhead 13 = .ok (.istore_n 3, 1) := by decide +kernel
theorem dX6_isAhead_14 : decode cX6_isAhead 14 = .ok (.iload_n 3, 1) := by decide +kernel
theorem dX6_isAhead_15 : decode cX6_isAhead 15 = .ok (.ifCond .ne 21, 3) := by decide +kernel
theorem dX6_isAhead_18 : decode cX6_isAhead 18 = .ok (.aload_n 0, 1) := by decide +kernel
theorem dX6_isAhead_19 : decode cX6_isAhead 19 = .ok (.iload_n 1, 1) := by decide +kernel
theorem dX6_isAhead_20 : decode cX6_isAhead 20 = .ok (.bipush 10, 2) := by decide +kernel
theorem dX6_isAhead_22 : decode cX6_isAhead 22 = .ok (.invokevirtual 59, 3) := by decide +kernel
theorem dX6_isAhead_25 : decode cX6_isAhead 25 = .ok (.aload_n 0, 1) := by decide +kernel
theorem dX6_isAhead_26 : decode cX6_isAhead 26 = .ok (.iload_n 2, 1) := by decide +kernel
theorem dX6_isAhead_27 : decode cX6_isAhead 27 = .ok (.bipush 10, 2) := by decide +kernel
theorem dX6_isAhead_29 : decode cX6_isAhead 29 = .ok (.invokevirtual 59, 3) := by decide +kernel
theorem dX6_isAhead_32 : decode cX6_isAhead 32 = .ok (.isub, 1) := by decide +kernel
theorem dX6_isAhead_33 : decode cX6_isAhead 33 = .ok (.goto 4, 3) := by decide +kernel
theorem dX6_isAhead_36 : decode cX6_isAhead 36 = .ok (.iload_n 3, 1) := by decide +kernel
theorem dX6_isAhead_37 : decode cX6_isAhead 37 = .ok (.istore_n 3, 1) := by decide +kernel
theorem dX6_isAhead_38 : decode cX6_isAhead 38 = .ok (.iload_n 3, 1) := by decide +kernel
theorem dX6_isAhead_39 : decode cX6_isAhead 39 = .ok (.ifCond .ne 21, 3) := by decide +kernel
theorem dX6_isAhead_42 : decode cX6_isAhead 42 = .ok (.aload_n 0, 1) := by decide +kernel
theorem dX6_isAhead_43 : decode cX6_isAhead 43 = .ok (.iload_n 1, 1) := by decide +kernel
theorem dX6_isAhead_44 : decode cX6_isAhead 44 = .ok (.bipush 12, 2) := by decide +kernel
theorem dX6_isAhead_46 : decode cX6_isAhead 46 = .ok (.invokevirtual 59, 3) := by decide +kernel
theorem dX6_isAhead_49 : decode cX6_isAhead 49 = .ok (.aload_n 0, 1) := by decide +kernel
theorem dX6_isAhead_50 : decode cX6_isAhead 50 = .ok (.iload_n 2, 1) := by decide +kernel
theorem dX6_isAhead_51 : decode cX6_isAhead 51 = .ok (.bipush 12, 2) := by decide +kernel
theorem dX6_isAhead_53 : decode cX6_isAhead 53 = .ok (.invokevirtual 59, 3) := by decide +kernel
theorem dX6_isAhead_56 : decode cX6_isAhead 56 = .ok (.isub, 1) := by decide +kernel
theorem dX6_isAhead_57 : decode cX6_isAhead 57 = .ok (.goto 4, 3) := by decide +kernel
theorem dX6_isAhead_60 : decode cX6_isAhead 60 = .ok (.iload_n 3, 1) := by decide +kernel
theorem dX6_isAhead_61 : decode cX6_isAhead 61 = .ok (.istore_n 3, 1) := by decide +kernel
theorem dX6_isAhead_62 : decode cX6_isAhead 62 = .ok (.iload_n 3, 1) := by decide +kernel
theorem dX6_isAhead_63 : decode cX6_isAhead 63 = .ok (.ifCond .ne 16, 3) := by decide +kernel
theorem dX6_isAhead_66 : decode cX6_isAhead 66 = .ok (.iload_n 1, 1) := by decide +kernel
theorem dX6_isAhead_67 : decode cX6_isAhead 67 = .ok (.iload_n 2, 1) := by decide +kernel
theorem dX6_isAhead_68 : decode cX6_isAhead 68 = .ok (.if_icmp .ge 7, 3) := by decide +kernel
theorem dX6_isAhead_71 : decode cX6_isAhead 71 = .ok (.iconst 1, 1) := by decide +kernel
theorem dX6_isAhead_72 : decode cX6_isAhead 72 = .ok (.goto 16, 3) := by decide +kernel
theorem dX6_isAhead_75 : decode cX6_isAhead 75 = .ok (.iconst 0, 1) := by decide +kernel
theorem dX6_isAhead_76 : decode cX6_isAhead 76 = .ok (.goto 12, 3) := by decide +kernel
theorem dX6_isAhead_79 : decode cX6_isAhead 79 = .ok (.iload_n 3, 1) := by decide +kernel
theorem dX6_isAhead_80 : decode cX6_isAhead 80 = .ok (.ifCond .ge 7, 3) := by decide +kernel
theorem dX6_isAhead_83 : decode cX6_isAhead 83 = .ok (.iconst 1, 1) := by decide +kernel
theorem dX6_isAhead_84 : decode cX6_isAhead 84 = .ok (.goto 4, 3) := by decide +kernel
theorem dX6_isAhead_87 : decode cX6_isAhead 87 = .ok (.iconst 0, 1) := by decide +kernel
theorem dX6_isAhead_88 : decode cX6_isAhead 88 = .ok (.ireturn, 1) := by decide +kernel
theorem dX6_lists_0 : decode cX6_lists 0 = .ok (.aload_n 0, 1) := by decide +kernel
theorem dX6_lists_1 : decode cX6_lists 1 = .ok (.iconst 0, 1) := by decide +kernel
theorem dX6_lists_2 : decode cX6_lists 2 = .ok (.putfield 116, 3) := by decide +kernel
theorem dX6_lists_5 : decode cX6_lists 5 = .ok (.iconst 0, 1) := by decide +kernel
theorem dX6_lists_6 : decode cX6_lists 6 = .ok (.istore_n 1, 1) := by decide +kernel
theorem dX6_lists_7 : decode cX6_lists 7 = .ok (.iload_n 1, 1) := by decide +kernel
theorem dX6_lists_8 : decode cX6_lists 8 = .ok (.aload_n 0, 1) := by decide +kernel
theorem dX6_lists_9 : decode cX6_lists 9 = .ok (.getfield 7, 3) := by decide +kernel
theorem dX6_lists_12 : decode cX6_lists 12 = .ok (.iconst 0, 1) := by decide +kernel
theorem dX6_lists_13 : decode cX6_lists 13 = .ok (.iaload, 1) := by decide +kernel
theorem dX6_lists_14 : decode cX6_lists 14 = .ok (.if_icmp .ge 79, 3) := by decide +kernel
theorem dX6_lists_17 : decode cX6_lists 17 = .ok (.aload_n 0, 1) := by decide +kernel
theorem dX6_lists_18 : decode cX6_lists 18 = .ok (.iload_n 1, 1) := by decide +kernel
theorem dX6_lists_19 : decode cX6_lists 19 = .ok (.invokevirtual 84, 3) := by decide +kernel
theorem dX6_lists_22 : decode cX6_lists 22 = .ok (.ifCond .ne 65, 3) := by decide +kernel
theorem dX6_lists_25 : decode cX6_lists 25 = .ok (.aload_n 0, 1) := by decide +kernel
theorem dX6_lists_26 : decode cX6_lists 26 = .ok (.getfield 116, 3) := by decide +kernel
theorem dX6_lists_29 : decode cX6_lists 29 = .ok (.istore_n 2, 1) := by decide +kernel
theorem dX6_lists_30 : decode cX6_lists 30 = .ok (.iload_n 2, 1) := by decide +kernel
theorem dX6_lists_31 : decode cX6_lists 31 = .ok (.ifCond .le 39, 3) := by decide +kernel
theorem dX6_lists_34 : decode cX6_lists 34 = .ok (.aload_n 0, 1) := by decide +kernel
theorem dX6_lists_35 : decode cX6_lists 35 = .ok (.iload_n 1, 1) := by decide +kernel
theorem dX6_lists_36 : decode cX6_lists 36 = .ok (.aload_n 0, 1) := by decide +kernel
theorem dX6_lists_37 : decode cX6_lists 37 = .ok (.getfield 19, 3) := by decide +kernel
theorem dX6_lists_40 : decode cX6_lists 40 = .ok (.iload_n 2, 1) := by decide +kernel
theorem dX6_lists_41 : decode cX6_lists 41 = .ok (.iconst 1, 1) := by decide +kernel
theorem dX6_lists_42 : decode cX6_lists 42 = .ok (.isub, 1) := by decide +kernel
theorem dX6_lists_43 : decode cX6_lists 43 = .ok (.iaload, 1) := by decide +kernel
theorem dX6_lists_44 : decode cX6_lists 44 = .ok (.invokevirtual 119, 3) := by decide +kernel
theorem dX6_lists_47 : decode cX6_lists 47 = .ok (.ifCond .eq 23, 3) := by decide +kernel
theorem dX6_lists_50 : decode cX6_lists 50 = .ok (.aload_n 0, 1) := by decide +kernel
theorem dX6_lists_51 : decode cX6_lists 51 = .ok (.getfield 19, 3) := by decide +kernel
theorem dX6_lists_54 : decode cX6_lists 54 = .ok (.iload_n 2, 1) := by decide +kernel
theorem dX6_lists_55 : decode cX6_lists 55 = .ok (.aload_n 0, 1) := by decide +kernel
theorem dX6_lists_56 : decode cX6_lists 56 = .ok (.getfield 19, 3) := by decide +kernel
theorem dX6_lists_59 : decode cX6_lists 59 = .ok (.iload_n 2, 1) := by decide +kernel
theorem dX6_lists_60 : decode cX6_lists 60 = .ok (.iconst 1, 1) := by decide +kernel
theorem dX6_lists_61 : decode cX6_lists 61 = .ok (.isub, 1) := by decide +kernel
theorem dX6_lists_62 : decode cX6_lists 62 = .ok (.iaload, 1) := by decide +kernel
theorem dX6_lists_63 : decode cX6_lists 63 = .ok (.iastore, 1) := by decide +kernel
theorem dX6_lists_64 : decode cX6_lists 64 = .ok (.iinc 2 (-1), 3) := by decide +kernel
theorem dX6_lists_67 : decode cX6_lists 67 = .ok (.goto (-37), 3) := by decide +kernel
theorem dX6_lists_70 : decode cX6_lists 70 = .ok (.aload_n 0, 1) := by decide +kernel
theorem dX6_lists_71 : decode cX6_lists 71 = .ok (.getfield 19, 3) := by decide +kernel
theorem dX6_lists_74 : decode cX6_lists 74 = .ok (.iload_n 2, 1) := by decide +kernel
theorem dX6_lists_75 : decode cX6_lists 75 = .ok (.iload_n 1, 1) := by decide +kernel
theorem dX6_lists_76 : decode cX6_lists 76 = .ok (.iastore, 1) := by decide +kernel
theorem dX6_lists_77 : decode cX6_lists 77 = .ok (.aload_n 0, 1) := by decide +kernel
theorem dX6_lists_78 : decode cX6_lists 78 = .ok (.dup, 1) := by decide +kernel
theorem dX6_lists_79 : decode cX6_lists 79 = .ok (.getfield 116, 3) := by decide +kernel
theorem dX6_lists_82 : decode cX6_lists 82 = .ok (.iconst 1, 1) := by decide +kernel
theorem dX6_lists_83 : decode cX6_lists 83 = .ok (.iadd, 1) := by decide +kernel
theorem dX6_lists_84 : decode cX6_lists 84 = .ok (.putfield 116, 3) := by decide +kernel
theorem dX6_lists_87 : decode cX6_lists 87 = .ok (.iinc 1 1, 3) := by decide +kernel
theorem dX6_lists_90 : decode cX6_lists 90 = .ok (.goto (-83), 3) := by decide +kernel
theorem dX6_lists_93 : decode cX6_lists 93 = .ok (.return_, 1) := by decide +kernel
theorem dX6_ackAll_0 : decode cX6_ackAll 0 = .ok (.aload_n 0, 1) := by decide +kernel
theorem dX6_ackAll_1 : decode cX6_ackAll 1 = .ok (.aload_n 0, 1) := by decide +kernel
theorem dX6_ackAll_2 : decode cX6_ackAll 2 = .ok (.getfield 7, 3) := by decide +kernel
theorem dX6_ackAll_5 : decode cX6_ackAll 5 = .ok (.invokevirtual 40, 3) := by decide +kernel
theorem dX6_ackAll_8 : decode cX6_ackAll 8 = .ok (.aload_n 0, 1) := by decide +kernel
theorem dX6_ackAll_9 : decode cX6_ackAll 9 = .ok (.invokevirtual 122, 3) := by decide +kernel
theorem dX6_ackAll_12 : decode cX6_ackAll 12 = .ok (.iconst 0, 1) := by decide +kernel
theorem dX6_ackAll_13 : decode cX6_ackAll 13 = .ok (.istore_n 1, 1) := by decide +kernel
theorem dX6_ackAll_14 : decode cX6_ackAll 14 = .ok (.iconst 0, 1) := by decide +kernel
theorem dX6_ackAll_15 : decode cX6_ackAll 15 = .ok (.istore_n 2, 1) := by decide +kernel
theorem dX6_ackAll_16 : decode cX6_ackAll 16 = .ok (.iload_n 2, 1) := by decide +kernel
theorem dX6_ackAll_17 : decode cX6_ackAll 17 = .ok (.aload_n 0, 1) := by decide +kernel
theorem dX6_ackAll_18 : decode cX6_ackAll 18 = .ok (.getfield 116, 3) := by decide +kernel
theorem dX6_ackAll_21 : decode cX6_ackAll 21 = .ok (.if_icmp .ge 38, 3) := by decide +kernel
theorem dX6_ackAll_24 : decode cX6_ackAll 24 = .ok (.aload_n 0, 1) := by decide +kernel
theorem dX6_ackAll_25 : decode cX6_ackAll 25 = .ok (.aload_n 0, 1) := by decide +kernel
theorem dX6_ackAll_26 : decode cX6_ackAll 26 = .ok (.getfield 19, 3) := by decide +kernel
theorem dX6_ackAll_29 : decode cX6_ackAll 29 = .ok (.iload_n 2, 1) := by decide +kernel
theorem dX6_ackAll_30 : decode cX6_ackAll 30 = .ok (.iaload, 1) := by decide +kernel
theorem dX6_ackAll_31 : decode cX6_ackAll 31 = .ok (.bipush 10, 2) := by decide +kernel
theorem dX6_ackAll_33 : decode cX6_ackAll 33 = .ok (.invokevirtual 59, 3) := by decide +kernel
theorem dX6_ackAll_36 : decode cX6_ackAll 36 = .ok (.ifCond .ne 17, 3) := by decide +kernel
theorem dX6_ackAll_39 : decode cX6_ackAll 39 = .ok (.aload_n 0, 1) := by decide +kernel
theorem dX6_ackAll_40 : decode cX6_ackAll 40 = .ok (.aload_n 0, 1) := by decide +kernel
theorem dX6_ackAll_41 : decode cX6_ackAll 41 = .ok (.getfield 19, 3) := by decide +kernel
theorem dX6_ackAll_44 : decode cX6_ackAll 44 = .ok (.iload_n 2, 1) := by decide +kernel
theorem dX6_ackAll_45 : decode cX6_ackAll 45 = .ok (.iaload, 1) := by decide +kernel
theorem dX6_ackAll_46 : decode cX6_ackAll 46 = .ok (.invokevirtual 113, 3) := by decide +kernel
theorem dX6_ackAll_49 : decode cX6_ackAll 49 = .ok (.istore_n 3, 1) := by decide +kernel
theorem dX6_ackAll_50 : decode cX6_ackAll 50 = .ok (.iinc 1 1, 3) := by decide +kernel
theorem dX6_ackAll_53 : decode cX6_ackAll 53 = .ok (.iinc 2 1, 3) := by decide +kernel
theorem dX6_ackAll_56 : decode cX6_ackAll 56 = .ok (.goto (-40), 3) := by decide +kernel
theorem dX6_ackAll_59 : decode cX6_ackAll 59 = .ok (.iload_n 1, 1) := by decide +kernel
theorem dX6_ackAll_60 : decode cX6_ackAll 60 = .ok (.ireturn, 1) := by decide +kernel
theorem dX6_shelves_0 : decode cX6_shelves 0 = .ok (.aload_n 0, 1) := by decide +kernel
theorem dX6_shelves_1 : decode cX6_shelves 1 = .ok (.iload_n 1, 1) := by decide +kernel
theorem dX6_shelves_2 : decode cX6_shelves 2 = .ok (.invokevirtual 52, 3) := by decide +kernel
theorem dX6_shelves_5 : decode cX6_shelves 5 = .ok (.ifCond .eq 14, 3) := by decide +kernel
theorem dX6_shelves_8 : decode cX6_shelves 8 = .ok (.iload_n 2, 1) := by decide +kernel
theorem dX6_shelves_9 : decode cX6_shelves 9 = .ok (.iconst 1, 1) := by decide +kernel
theorem dX6_shelves_10 : decode cX6_shelves 10 = .ok (.sipush 1000, 3) := by decide +kernel
theorem dX6_shelves_13 : decode cX6_shelves 13 = .ok (.invokestatic 32, 3) := by decide +kernel
theorem dX6_shelves_16 : decode cX6_shelves 16 = .ok (.ifCond .ne 7, 3) := by decide +kernel
theorem dX6_shelves_19 : decode cX6_shelves 19 = .ok (.sipush (-20001), 3) := by decide +kernel
theorem dX6_shelves_22 : decode cX6_shelves 22 = .ok (.ireturn, 1) := by decide +kernel
theorem dX6_shelves_23 : decode cX6_shelves 23 = .ok (.aload_n 0, 1) := by decide +kernel
theorem dX6_shelves_24 : decode cX6_shelves 24 = .ok (.iload_n 1, 1) := by decide +kernel
theorem dX6_shelves_25 : decode cX6_shelves 25 = .ok (.iconst 5, 1) := by decide +kernel
theorem dX6_shelves_26 : decode cX6_shelves 26 = .ok (.invokevirtual 59, 3) := by decide +kernel
theorem dX6_shelves_29 : decode cX6_shelves 29 = .ok (.iconst 1, 1) := by decide +kernel
theorem dX6_shelves_30 : decode cX6_shelves 30 = .ok (.if_icmp .ne 7, 3) := by decide +kernel
theorem dX6_shelves_33 : decode cX6_shelves 33 = .ok (.sipush (-20002), 3) := by decide +kernel
theorem dX6_shelves_36 : decode cX6_shelves 36 = .ok (.ireturn, 1) := by decide +kernel
theorem dX6_shelves_37 : decode cX6_shelves 37 = .ok (.aload_n 0, 1) := by decide +kernel
theorem dX6_shelves_38 : decode cX6_shelves 38 = .ok (.iload_n 1, 1) := by decide +kernel
theorem dX6_shelves_39 : decode cX6_shelves 39 = .ok (.bipush 13, 2) := by decide +kernel
theorem dX6_shelves_41 : decode cX6_shelves 41 = .ok (.aload_n 0, 1) := by decide +kernel
theorem dX6_shelves_42 : decode cX6_shelves 42 = .ok (.getfield 7, 3) := by decide +kernel
theorem dX6_shelves_45 : decode cX6_shelves 45 = .ok (.iconst 1, 1) := by decide +kernel
theorem dX6_shelves_46 : decode cX6_shelves 46 = .ok (.iaload, 1) := by decide +kernel
theorem dX6_shelves_47 : decode cX6_shelves 47 = .ok (.iload_n 2, 1) := by decide +kernel
theorem dX6_shelves_48 : decode cX6_shelves 48 = .ok (.iadd, 1) := by decide +kernel
theorem dX6_shelves_49 : decode cX6_shelves 49 = .ok (.invokevirtual 44, 3) := by decide +kernel
theorem dX6_shelves_52 : decode cX6_shelves 52 = .ok (.aload_n 0, 1) := by decide +kernel
theorem dX6_shelves_53 : decode cX6_shelves 53 = .ok (.iconst 4, 1) := by decide +kernel
theorem dX6_shelves_54 : decode cX6_shelves 54 = .ok (.iload_n 1, 1) := by decide +kernel
theorem dX6_shelves_55 : decode cX6_shelves 55 = .ok (.invokevirtual 48, 3) := by decide +kernel
theorem dX6_shelves_58 : decode cX6_shelves 58 = .ok (.aload_n 0, 1) := by decide +kernel
theorem dX6_shelves_59 : decode cX6_shelves 59 = .ok (.getfield 7, 3) := by decide +kernel
theorem dX6_shelves_62 : decode cX6_shelves 62 = .ok (.iconst 1, 1) := by decide +kernel
theorem dX6_shelves_63 : decode cX6_shelves 63 = .ok (.iaload, 1) := by decide +kernel
theorem dX6_shelves_64 : decode cX6_shelves 64 = .ok (.iload_n 2, 1) := by decide +kernel
theorem dX6_shelves_65 : decode cX6_shelves 65 = .ok (.iadd, 1) := by decide +kernel
theorem dX6_shelves_66 : decode cX6_shelves 66 = .ok (.ireturn, 1) := by decide +kernel
theorem dX6_shelve_0 : decode cX6_shelve 0 = .ok (.aload_n 0, 1) := by decide +kernel
theorem dX6_shelve_1 : decode cX6_shelve 1 = .ok (.getfield 7, 3) := by decide +kernel
theorem dX6_shelve_4 : decode cX6_shelve 4 = .ok (.aload_n 0, 1) := by decide +kernel
theorem dX6_shelve_5 : decode cX6_shelve 5 = .ok (.getfield 13, 3) := by decide +kernel
theorem dX6_shelve_8 : decode cX6_shelve 8 = .ok (.invokestatic 67, 3) := by decide +kernel
theorem dX6_shelve_11 : decode cX6_shelve 11 = .ok (.aload_n 0, 1) := by decide +kernel
theorem dX6_shelve_12 : decode cX6_shelve 12 = .ok (.aload_n 0, 1) := by decide +kernel
theorem dX6_shelve_13 : decode cX6_shelve 13 = .ok (.iload_n 1, 1) := by decide +kernel
theorem dX6_shelve_14 : decode cX6_shelve 14 = .ok (.iload_n 2, 1) := by decide +kernel
theorem dX6_shelve_15 : decode cX6_shelve 15 = .ok (.invokevirtual 125, 3) := by decide +kernel
theorem dX6_shelve_18 : decode cX6_shelve 18 = .ok (.invokevirtual 74, 3) := by decide +kernel
theorem dX6_shelve_21 : decode cX6_shelve 21 = .ok (.ireturn, 1) := by decide +kernel
theorem dX6_unshelve_0 : decode cX6_unshelve 0 = .ok (.aload_n 0, 1) := by decide +kernel
theorem dX6_unshelve_1 : decode cX6_unshelve 1 = .ok (.iload_n 1, 1) := by decide +kernel
theorem dX6_unshelve_2 : decode cX6_unshelve 2 = .ok (.invokevirtual 52, 3) := by decide +kernel
theorem dX6_unshelve_5 : decode cX6_unshelve 5 = .ok (.ifCond .ne 7, 3) := by decide +kernel
theorem dX6_unshelve_8 : decode cX6_unshelve 8 = .ok (.sipush (-20001), 3) := by decide +kernel
theorem dX6_unshelve_11 : decode cX6_unshelve 11 = .ok (.ireturn, 1) := by decide +kernel
theorem dX6_unshelve_12 : decode cX6_unshelve 12 = .ok (.aload_n 0, 1) := by decide +kernel
theorem dX6_unshelve_13 : decode cX6_unshelve 13 = .ok (.iload_n 1, 1) := by decide +kernel
theorem dX6_unshelve_14 : decode cX6_unshelve 14 = .ok (.bipush 13, 2) := by decide +kernel
theorem dX6_unshelve_16 : decode cX6_unshelve 16 = .ok (.invokevirtual 59, 3) := by decide +kernel
theorem dX6_unshelve_19 : decode cX6_unshelve 19 = .ok (.ifCond .ne 7, 3) := by decide +kernel
theorem dX6_unshelve_22 : decode cX6_unshelve 22 = .ok (.sipush (-20002), 3) := by decide +kernel
theorem dX6_unshelve_25 : decode cX6_unshelve 25 = .ok (.ireturn, 1) := by decide +kernel
theorem dX6_unshelve_26 : decode cX6_unshelve 26 = .ok (.aload_n 0, 1) := by decide +kernel
theorem dX6_unshelve_27 : decode cX6_unshelve 27 = .ok (.aload_n 0, 1) := by decide +kernel
theorem dX6_unshelve_28 : decode cX6_unshelve 28 = .ok (.getfield 7, 3) := by decide +kernel
theorem dX6_unshelve_31 : decode cX6_unshelve 31 = .ok (.invokevirtual 40, 3) := by decide +kernel
theorem dX6_unshelve_34 : decode cX6_unshelve 34 = .ok (.aload_n 0, 1) := by decide +kernel
theorem dX6_unshelve_35 : decode cX6_unshelve 35 = .ok (.iload_n 1, 1) := by decide +kernel
theorem dX6_unshelve_36 : decode cX6_unshelve 36 = .ok (.bipush 13, 2) := by decide +kernel
theorem dX6_unshelve_38 : decode cX6_unshelve 38 = .ok (.invokevirtual 59, 3) := by decide +kernel
theorem dX6_unshelve_41 : decode cX6_unshelve 41 = .ok (.aload_n 0, 1) := by decide +kernel
theorem dX6_unshelve_42 : decode cX6_unshelve 42 = .ok (.getfield 7, 3) := by decide +kernel
theorem dX6_unshelve_45 : decode cX6_unshelve 45 = .ok (.iconst 1, 1) := by decide +kernel
theorem dX6_unshelve_46 : decode cX6_unshelve 46 = .ok (.iaload, 1) := by decide +kernel
theorem dX6_unshelve_47 : decode cX6_unshelve 47 = .ok (.isub, 1) := by decide +kernel
theorem dX6_unshelve_48 : decode cX6_unshelve 48 = .ok (.istore_n 2, 1) := by decide +kernel
theorem dX6_unshelve_49 : decode cX6_unshelve 49 = .ok (.aload_n 0, 1) := by decide +kernel
theorem dX6_unshelve_50 : decode cX6_unshelve 50 = .ok (.iload_n 1, 1) := by decide +kernel
theorem dX6_unshelve_51 : decode cX6_unshelve 51 = .ok (.invokevirtual 63, 3) := by decide +kernel
theorem dX6_unshelve_54 : decode cX6_unshelve 54 = .ok (.iload_n 2, 1) := by decide +kernel
theorem dX6_unshelve_55 : decode cX6_unshelve 55 = .ok (.ireturn, 1) := by decide +kernel
theorem dX6_list_0 : decode cX6_list 0 = .ok (.iload_n 1, 1) := by decide +kernel
theorem dX6_list_1 : decode cX6_list 1 = .ok (.ifCond .ge 7, 3) := by decide +kernel
theorem dX6_list_4 : decode cX6_list 4 = .ok (.sipush (-20001), 3) := by decide +kernel
theorem dX6_list_7 : decode cX6_list 7 = .ok (.ireturn, 1) := by decide +kernel
theorem dX6_list_8 : decode cX6_list 8 = .ok (.aload_n 0, 1) := by decide +kernel
theorem dX6_list_9 : decode cX6_list 9 = .ok (.invokevirtual 122, 3) := by decide +kernel
theorem dX6_list_12 : decode cX6_list 12 = .ok (.iload_n 1, 1) := by decide +kernel
theorem dX6_list_13 : decode cX6_list 13 = .ok (.aload_n 0, 1) := by decide +kernel
theorem dX6_list_14 : decode cX6_list 14 = .ok (.getfield 116, 3) := by decide +kernel
theorem dX6_list_17 : decode cX6_list 17 = .ok (.if_icmp .ge 12, 3) := by decide +kernel
theorem dX6_list_20 : decode cX6_list 20 = .ok (.aload_n 0, 1) := by decide +kernel
theorem dX6_list_21 : decode cX6_list 21 = .ok (.getfield 19, 3) := by decide +kernel
theorem dX6_list_24 : decode cX6_list 24 = .ok (.iload_n 1, 1) := by decide +kernel
theorem dX6_list_25 : decode cX6_list 25 = .ok (.iaload, 1) := by decide +kernel
theorem dX6_list_26 : decode cX6_list 26 = .ok (.goto 6, 3) := by decide +kernel
theorem dX6_list_29 : decode cX6_list 29 = .ok (.sipush (-20009), 3) := by decide +kernel
theorem dX6_list_32 : decode cX6_list 32 = .ok (.ireturn, 1) := by decide +kernel
theorem dX6_counts_0 : decode cX6_counts 0 = .ok (.iload_n 2, 1) := by decide +kernel
theorem dX6_counts_1 : decode cX6_counts 1 = .ok (.bipush 6, 2) := by decide +kernel
theorem dX6_counts_3 : decode cX6_counts 3 = .ok (.if_icmp .ge 32, 3) := by decide +kernel
theorem dX6_counts_6 : decode cX6_counts 6 = .ok (.iload_n 2, 1) := by decide +kernel
theorem dX6_counts_7 : decode cX6_counts 7 = .ok (.ifCond .ne 11, 3) := by decide +kernel
theorem dX6_counts_10 : decode cX6_counts 10 = .ok (.aload_n 0, 1) := by decide +kernel
theorem dX6_counts_11 : decode cX6_counts 11 = .ok (.iload_n 1, 1) := by decide +kernel
theorem dX6_counts_12 : decode cX6_counts 12 = .ok (.invokevirtual 78, 3) := by decide +kernel
theorem dX6_counts_15 : decode cX6_counts 15 = .ok (.goto 19, 3) := by decide +kernel
theorem dX6_counts_18 : decode cX6_counts 18 = .ok (.aload_n 0, 1) := by decide +kernel
theorem dX6_counts_19 : decode cX6_counts 19 = .ok (.iload_n 1, 1) := by decide +kernel
theorem dX6_counts_20 : decode cX6_counts 20 = .ok (.invokevirtual 84, 3) := by decide +kernel
theorem dX6_counts_23 : decode cX6_counts 23 = .ok (.iload_n 2, 1) := by decide +kernel
theorem dX6_counts_24 : decode cX6_counts 24 = .ok (.iconst 1, 1) := by decide +kernel
theorem dX6_counts_25 : decode cX6_counts 25 = .ok (.isub, 1) := by decide +kernel
theorem dX6_counts_26 : decode cX6_counts 26 = .ok (.if_icmp .ne 7, 3) := by decide +kernel
theorem dX6_counts_29 : decode cX6_counts 29 = .ok (.iconst 1, 1) := by decide +kernel
theorem dX6_counts_30 : decode cX6_counts 30 = .ok (.goto 4, 3) := by decide +kernel
theorem dX6_counts_33 : decode cX6_counts 33 = .ok (.iconst 0, 1) := by decide +kernel
theorem dX6_counts_34 : decode cX6_counts 34 = .ok (.ireturn, 1) := by decide +kernel
theorem dX6_counts_35 : decode cX6_counts 35 = .ok (.iload_n 2, 1) := by decide +kernel
theorem dX6_counts_36 : decode cX6_counts 36 = .ok (.bipush 6, 2) := by decide +kernel
theorem dX6_counts_38 : decode cX6_counts 38 = .ok (.if_icmp .ne 21, 3) := by decide +kernel
theorem dX6_counts_41 : decode cX6_counts 41 = .ok (.aload_n 0, 1) := by decide +kernel
theorem dX6_counts_42 : decode cX6_counts 42 = .ok (.iload_n 1, 1) := by decide +kernel
theorem dX6_counts_43 : decode cX6_counts 43 = .ok (.bipush 13, 2) := by decide +kernel
theorem dX6_counts_45 : decode cX6_counts 45 = .ok (.invokevirtual 59, 3) := by decide +kernel
theorem dX6_counts_48 : decode cX6_counts 48 = .ok (.ifCond .le 7, 3) := by decide +kernel
theorem dX6_counts_51 : decode cX6_counts 51 = .ok (.iconst 1, 1) := by decide +kernel
theorem dX6_counts_52 : decode cX6_counts 52 = .ok (.goto 22, 3) := by decide +kernel
theorem dX6_counts_55 : decode cX6_counts 55 = .ok (.iconst 0, 1) := by decide +kernel
theorem dX6_counts_56 : decode cX6_counts 56 = .ok (.goto 18, 3) := by decide +kernel
theorem dX6_counts_59 : decode cX6_counts 59 = .ok (.aload_n 0, 1) := by decide +kernel
theorem dX6_counts_60 : decode cX6_counts 60 = .ok (.iload_n 1, 1) := by decide +kernel
theorem dX6_counts_61 : decode cX6_counts 61 = .ok (.bipush 10, 2) := by decide +kernel
theorem dX6_counts_63 : decode cX6_counts 63 = .ok (.invokevirtual 59, 3) := by decide +kernel
theorem dX6_counts_66 : decode cX6_counts 66 = .ok (.ifCond .ne 7, 3) := by decide +kernel
theorem dX6_counts_69 : decode cX6_counts 69 = .ok (.iconst 1, 1) := by decide +kernel
theorem dX6_counts_70 : decode cX6_counts 70 = .ok (.goto 4, 3) := by decide +kernel
theorem dX6_counts_73 : decode cX6_counts 73 = .ok (.iconst 0, 1) := by decide +kernel
theorem dX6_counts_74 : decode cX6_counts 74 = .ok (.ireturn, 1) := by decide +kernel
theorem dX6_count_0 : decode cX6_count 0 = .ok (.iload_n 1, 1) := by decide +kernel
theorem dX6_count_1 : decode cX6_count 1 = .ok (.iconst 0, 1) := by decide +kernel
theorem dX6_count_2 : decode cX6_count 2 = .ok (.bipush 7, 2) := by decide +kernel
theorem dX6_count_4 : decode cX6_count 4 = .ok (.invokestatic 32, 3) := by decide +kernel
theorem dX6_count_7 : decode cX6_count 7 = .ok (.ifCond .ne 7, 3) := by decide +kernel
theorem dX6_count_10 : decode cX6_count 10 = .ok (.sipush (-20001), 3) := by decide +kernel
theorem dX6_count_13 : decode cX6_count 13 = .ok (.ireturn, 1) := by decide +kernel
theorem dX6_count_14 : decode cX6_count 14 = .ok (.iconst 0, 1) := by decide +kernel
theorem dX6_count_15 : decode cX6_count 15 = .ok (.istore_n 2, 1) := by decide +kernel
theorem dX6_count_16 : decode cX6_count 16 = .ok (.iconst 0, 1) := by decide +kernel
theorem dX6_count_17 : decode cX6_count 17 = .ok (.istore_n 3, 1) := by decide +kernel
theorem dX6_count_18 : decode cX6_count 18 = .ok (.iload_n 3, 1) := by decide +kernel
theorem dX6_count_19 : decode cX6_count 19 = .ok (.aload_n 0, 1) := by decide +kernel
theorem dX6_count_20 : decode cX6_count 20 = .ok (.getfield 7, 3) := by decide +kernel
theorem dX6_count_23 : decode cX6_count 23 = .ok (.iconst 0, 1) := by decide +kernel
theorem dX6_count_24 : decode cX6_count 24 = .ok (.iaload, 1) := by decide +kernel
theorem dX6_count_25 : decode cX6_count 25 = .ok (.if_icmp .ge 26, 3) := by decide +kernel
theorem dX6_count_28 : decode cX6_count 28 = .ok (.iload_n 2, 1) := by decide +kernel
theorem dX6_count_29 : decode cX6_count 29 = .ok (.aload_n 0, 1) := by decide +kernel
theorem dX6_count_30 : decode cX6_count 30 = .ok (.iload_n 3, 1) := by decide +kernel
theorem dX6_count_31 : decode cX6_count 31 = .ok (.iload_n 1, 1) := by decide +kernel
theorem dX6_count_32 : decode cX6_count 32 = .ok (.invokevirtual 128, 3) := by decide +kernel
theorem dX6_count_35 : decode cX6_count 35 = .ok (.ifCond .eq 7, 3) := by decide +kernel
theorem dX6_count_38 : decode cX6_count 38 = .ok (.iconst 1, 1) := by decide +kernel
theorem dX6_count_39 : decode cX6_count 39 = .ok (.goto 4, 3) := by decide +kernel
theorem dX6_count_42 : decode cX6_count 42 = .ok (.iconst 0, 1) := by decide +kernel
theorem dX6_count_43 : decode cX6_count 43 = .ok (.iadd, 1) := by decide +kernel
theorem dX6_count_44 : decode cX6_count 44 = .ok (.istore_n 2, 1) := by decide +kernel
theorem dX6_count_45 : decode cX6_count 45 = .ok (.iinc 3 1, 3) := by decide +kernel
theorem dX6_count_48 : decode cX6_count 48 = .ok (.goto (-30), 3) := by decide +kernel
theorem dX6_count_51 : decode cX6_count 51 = .ok (.iload_n 2, 1) := by decide +kernel
theorem dX6_count_52 : decode cX6_count 52 = .ok (.ireturn, 1) := by decide +kernel
theorem dX6_events_0 : decode cX6_events 0 = .ok (.aload_n 0, 1) := by decide +kernel
theorem dX6_events_1 : decode cX6_events 1 = .ok (.getfield 7, 3) := by decide +kernel
theorem dX6_events_4 : decode cX6_events 4 = .ok (.bipush 9, 2) := by decide +kernel
theorem dX6_events_6 : decode cX6_events 6 = .ok (.iaload, 1) := by decide +kernel
theorem dX6_events_7 : decode cX6_events 7 = .ok (.ireturn, 1) := by decide +kernel
theorem dX6_eventOf_0 : decode cX6_eventOf 0 = .ok (.iload_n 1, 1) := by decide +kernel
theorem dX6_eventOf_1 : decode cX6_eventOf 1 = .ok (.bipush 30, 2) := by decide +kernel
theorem dX6_eventOf_3 : decode cX6_eventOf 3 = .ok (.if_icmp .ge 43, 3) := by decide +kernel
theorem dX6_eventOf_6 : decode cX6_eventOf 6 = .ok (.iload_n 1, 1) := by decide +kernel
theorem dX6_eventOf_7 : decode cX6_eventOf 7 = .ok (.aload_n 0, 1) := by decide +kernel
theorem dX6_eventOf_8 : decode cX6_eventOf 8 = .ok (.getfield 7, 3) := by decide +kernel
theorem dX6_eventOf_11 : decode cX6_eventOf 11 = .ok (.bipush 9, 2) := by decide +kernel
theorem dX6_eventOf_13 : decode cX6_eventOf 13 = .ok (.iaload, 1) := by decide +kernel
theorem dX6_eventOf_14 : decode cX6_eventOf 14 = .ok (.if_icmp .ge 32, 3) := by decide +kernel
theorem dX6_eventOf_17 : decode cX6_eventOf 17 = .ok (.aload_n 0, 1) := by decide +kernel
theorem dX6_eventOf_18 : decode cX6_eventOf 18 = .ok (.getfield 7, 3) := by decide +kernel
theorem dX6_eventOf_21 : decode cX6_eventOf 21 = .ok (.bipush 80, 2) := by decide +kernel
theorem dX6_eventOf_23 : decode cX6_eventOf 23 = .ok (.iconst 3, 1) := by decide +kernel
theorem dX6_eventOf_24 : decode cX6_eventOf 24 = .ok (.aload_n 0, 1) := by decide +kernel
theorem dX6_eventOf_25 : decode cX6_eventOf 25 = .ok (.getfield 7, 3) := by decide +kernel
theorem dX6_eventOf_28 : decode cX6_eventOf 28 = .ok (.bipush 9, 2) := by decide +kernel
theorem dX6_eventOf_30 : decode cX6_eventOf 30 = .ok (.iaload, 1) := by decide +kernel
theorem dX6_eventOf_31 : decode cX6_eventOf 31 = .ok (.iconst 1, 1) := by decide +kernel
theorem dX6_eventOf_32 : decode cX6_eventOf 32 = .ok (.isub, 1) := by decide +kernel
theorem dX6_eventOf_33 : decode cX6_eventOf 33 = .ok (.iload_n 1, 1) := by decide +kernel
theorem dX6_eventOf_34 : decode cX6_eventOf 34 = .ok (.isub, 1) := by decide +kernel
theorem dX6_eventOf_35 : decode cX6_eventOf 35 = .ok (.bipush 30, 2) := by decide +kernel
theorem dX6_eventOf_37 : decode cX6_eventOf 37 = .ok (.irem, 1) := by decide +kernel
theorem dX6_eventOf_38 : decode cX6_eventOf 38 = .ok (.imul, 1) := by decide +kernel
theorem dX6_eventOf_39 : decode cX6_eventOf 39 = .ok (.iadd, 1) := by decide +kernel
theorem dX6_eventOf_40 : decode cX6_eventOf 40 = .ok (.iload_n 2, 1) := by decide +kernel
theorem dX6_eventOf_41 : decode cX6_eventOf 41 = .ok (.iadd, 1) := by decide +kernel
theorem dX6_eventOf_42 : decode cX6_eventOf 42 = .ok (.iaload, 1) := by decide +kernel
theorem dX6_eventOf_43 : decode cX6_eventOf 43 = .ok (.goto 6, 3) := by decide +kernel
theorem dX6_eventOf_46 : decode cX6_eventOf 46 = .ok (.sipush (-20009), 3) := by decide +kernel
theorem dX6_eventOf_49 : decode cX6_eventOf 49 = .ok (.ireturn, 1) := by decide +kernel
theorem dX6_event_0 : decode cX6_event 0 = .ok (.iload_n 1, 1) := by decide +kernel
theorem dX6_event_1 : decode cX6_event 1 = .ok (.ifCond .lt 12, 3) := by decide +kernel
theorem dX6_event_4 : decode cX6_event 4 = .ok (.iload_n 2, 1) := by decide +kernel
theorem dX6_event_5 : decode cX6_event 5 = .ok (.iconst 0, 1) := by decide +kernel
theorem dX6_event_6 : decode cX6_event 6 = .ok (.iconst 2, 1) := by decide +kernel
theorem dX6_event_7 : decode cX6_event 7 = .ok (.invokestatic 32, 3) := by decide +kernel
theorem dX6_event_10 : decode cX6_event 10 = .ok (.ifCond .ne 9, 3) := by decide +kernel
theorem dX6_event_13 : decode cX6_event 13 = .ok (.sipush (-20001), 3) := by decide +kernel
theorem dX6_event_16 : decode cX6_event 16 = .ok (.goto 9, 3) := by decide +kernel
theorem dX6_event_19 : decode cX6_event 19 = .ok (.aload_n 0, 1) := by decide +kernel
theorem dX6_event_20 : decode cX6_event 20 = .ok (.iload_n 1, 1) := by decide +kernel
theorem dX6_event_21 : decode cX6_event 21 = .ok (.iload_n 2, 1) := by decide +kernel
theorem dX6_event_22 : decode cX6_event 22 = .ok (.invokevirtual 131, 3) := by decide +kernel
theorem dX6_event_25 : decode cX6_event 25 = .ok (.ireturn, 1) := by decide +kernel
theorem dX6_meanAck_0 : decode cX6_meanAck 0 = .ok (.aload_n 0, 1) := by decide +kernel
theorem dX6_meanAck_1 : decode cX6_meanAck 1 = .ok (.getfield 7, 3) := by decide +kernel
theorem dX6_meanAck_4 : decode cX6_meanAck 4 = .ok (.bipush 11, 2) := by decide +kernel
theorem dX6_meanAck_6 : decode cX6_meanAck 6 = .ok (.iaload, 1) := by decide +kernel
theorem dX6_meanAck_7 : decode cX6_meanAck 7 = .ok (.ifCond .ne 7, 3) := by decide +kernel
theorem dX6_meanAck_10 : decode cX6_meanAck 10 = .ok (.fconst 0, 1) := by decide +kernel
theorem dX6_meanAck_11 : decode cX6_meanAck 11 = .ok (.goto 20, 3) := by decide +kernel
theorem dX6_meanAck_14 : decode cX6_meanAck 14 = .ok (.aload_n 0, 1) := by decide +kernel
theorem dX6_meanAck_15 : decode cX6_meanAck 15 = .ok (.getfield 7, 3) := by decide +kernel
theorem dX6_meanAck_18 : decode cX6_meanAck 18 = .ok (.bipush 10, 2) := by decide +kernel
theorem dX6_meanAck_20 : decode cX6_meanAck 20 = .ok (.iaload, 1) := by decide +kernel
theorem dX6_meanAck_21 : decode cX6_meanAck 21 = .ok (.i2f, 1) := by decide +kernel
theorem dX6_meanAck_22 : decode cX6_meanAck 22 = .ok (.aload_n 0, 1) := by decide +kernel
theorem dX6_meanAck_23 : decode cX6_meanAck 23 = .ok (.getfield 7, 3) := by decide +kernel
theorem dX6_meanAck_26 : decode cX6_meanAck 26 = .ok (.bipush 11, 2) := by decide +kernel
theorem dX6_meanAck_28 : decode cX6_meanAck 28 = .ok (.iaload, 1) := by decide +kernel
theorem dX6_meanAck_29 : decode cX6_meanAck 29 = .ok (.i2f, 1) := by decide +kernel
theorem dX6_meanAck_30 : decode cX6_meanAck 30 = .ok (.fdiv, 1) := by decide +kernel
theorem dX6_meanAck_31 : decode cX6_meanAck 31 = .ok (.freturn, 1) := by decide +kernel
theorem dX6_worst_0 : decode cX6_worst 0 = .ok (.sipush (-20009), 3) := by decide +kernel
theorem dX6_worst_3 : decode cX6_worst 3 = .ok (.istore_n 1, 1) := by decide +kernel
theorem dX6_worst_4 : decode cX6_worst 4 = .ok (.iconst 0, 1) := by decide +kernel
theorem dX6_worst_5 : decode cX6_worst 5 = .ok (.istore_n 2, 1) := by decide +kernel
theorem dX6_worst_6 : decode cX6_worst 6 = .ok (.iconst 0, 1) := by decide +kernel
theorem dX6_worst_7 : decode cX6_worst 7 = .ok (.istore_n 3, 1) := by decide +kernel
theorem dX6_worst_8 : decode cX6_worst 8 = .ok (.iload_n 3, 1) := by decide +kernel
theorem dX6_worst_9 : decode cX6_worst 9 = .ok (.aload_n 0, 1) := by decide +kernel
theorem dX6_worst_10 : decode cX6_worst 10 = .ok (.getfield 7, 3) := by decide +kernel
theorem dX6_worst_13 : decode cX6_worst 13 = .ok (.iconst 0, 1) := by decide +kernel
theorem dX6_worst_14 : decode cX6_worst 14 = .ok (.iaload, 1) := by decide +kernel
theorem dX6_worst_15 : decode cX6_worst 15 = .ok (.if_icmp .ge 97, 3) := by decide +kernel
theorem dX6_worst_18 : decode cX6_worst 18 = .ok (.iconst 0, 1) := by decide +kernel
theorem dX6_worst_19 : decode cX6_worst 19 = .ok (.istore 4, 2) := by decide +kernel
theorem dX6_worst_21 : decode cX6_worst 21 = .ok (.iconst 0, 1) := by decide +kernel
theorem dX6_worst_22 : decode cX6_worst 22 = .ok (.istore 5, 2) := by decide +kernel
theorem dX6_worst_24 : decode cX6_worst 24 = .ok (.iload 5, 2) := by decide +kernel
theorem dX6_worst_26 : decode cX6_worst 26 = .ok (.bipush 30, 2) := by decide +kernel
theorem dX6_worst_28 : decode cX6_worst 28 = .ok (.if_icmp .ge 53, 3) := by decide +kernel
theorem dX6_worst_31 : decode cX6_worst 31 = .ok (.iload 5, 2) := by decide +kernel
theorem dX6_worst_33 : decode cX6_worst 33 = .ok (.aload_n 0, 1) := by decide +kernel
theorem dX6_worst_34 : decode cX6_worst 34 = .ok (.getfield 7, 3) := by decide +kernel
theorem dX6_worst_37 : decode cX6_worst 37 = .ok (.bipush 9, 2) := by decide +kernel
theorem dX6_worst_39 : decode cX6_worst 39 = .ok (.iaload, 1) := by decide +kernel
theorem dX6_worst_40 : decode cX6_worst 40 = .ok (.if_icmp .ge 41, 3) := by decide +kernel
theorem dX6_worst_43 : decode cX6_worst 43 = .ok (.iload 4, 2) := by decide +kernel
theorem dX6_worst_45 : decode cX6_worst 45 = .ok (.aload_n 0, 1) := by decide +kernel
theorem dX6_worst_46 : decode cX6_worst 46 = .ok (.iload 5, 2) := by decide +kernel
theorem dX6_worst_48 : decode cX6_worst 48 = .ok (.iconst 1, 1) := by decide +kernel
theorem dX6_worst_49 : decode cX6_worst 49 = .ok (.invokevirtual 131, 3) := by decide +kernel
theorem dX6_worst_52 : decode cX6_worst 52 = .ok (.iconst 1, 1) := by decide +kernel
theorem dX6_worst_53 : decode cX6_worst 53 = .ok (.if_icmp .ne 18, 3) := by decide +kernel
theorem dX6_worst_56 : decode cX6_worst 56 = .ok (.aload_n 0, 1) := by decide +kernel
theorem dX6_worst_57 : decode cX6_worst 57 = .ok (.iload 5, 2) := by decide +kernel
theorem dX6_worst_59 : decode cX6_worst 59 = .ok (.iconst 2, 1) := by decide +kernel
theorem dX6_worst_60 : decode cX6_worst 60 = .ok (.invokevirtual 131, 3) := by decide +kernel
theorem dX6_worst_63 : decode cX6_worst 63 = .ok (.iload_n 3, 1) := by decide +kernel
theorem dX6_worst_64 : decode cX6_worst 64 = .ok (.if_icmp .ne 7, 3) := by decide +kernel
theorem dX6_worst_67 : decode cX6_worst 67 = .ok (.iconst 1, 1) := by decide +kernel
theorem dX6_worst_68 : decode cX6_worst 68 = .ok (.goto 4, 3) := by decide +kernel
theorem dX6_worst_71 : decode cX6_worst 71 = .ok (.iconst 0, 1) := by decide +kernel
theorem dX6_worst_72 : decode cX6_worst 72 = .ok (.iadd, 1) := by decide +kernel
theorem dX6_worst_73 : decode cX6_worst 73 = .ok (.istore 4, 2) := by decide +kernel
theorem dX6_worst_75 : decode cX6_worst 75 = .ok (.iinc 5 1, 3) := by decide +kernel
theorem dX6_worst_78 : decode cX6_worst 78 = .ok (.goto (-54), 3) := by decide +kernel
theorem dX6_worst_81 : decode cX6_worst 81 = .ok (.iload 4, 2) := by decide +kernel
theorem dX6_worst_83 : decode cX6_worst 83 = .ok (.iload_n 2, 1) := by decide +kernel
theorem dX6_worst_84 : decode cX6_worst 84 = .ok (.if_icmp .le 7, 3) := by decide +kernel
theorem dX6_worst_87 : decode cX6_worst 87 = .ok (.iload_n 3, 1) := by decide +kernel
theorem dX6_worst_88 : decode cX6_worst 88 = .ok (.goto 4, 3) := by decide +kernel
theorem dX6_worst_91 : decode cX6_worst 91 = .ok (.iload_n 1, 1) := by decide +kernel
theorem dX6_worst_92 : decode cX6_worst 92 = .ok (.istore_n 1, 1) := by decide +kernel
theorem dX6_worst_93 : decode cX6_worst 93 = .ok (.iload 4, 2) := by decide +kernel
theorem dX6_worst_95 : decode cX6_worst 95 = .ok (.iload_n 2, 1) := by decide +kernel
theorem dX6_worst_96 : decode cX6_worst 96 = .ok (.if_icmp .le 8, 3) := by decide +kernel
theorem dX6_worst_99 : decode cX6_worst 99 = .ok (.iload 4, 2) := by decide +kernel
theorem dX6_worst_101 : decode cX6_worst 101 = .ok (.goto 4, 3) := by decide +kernel
theorem dX6_worst_104 : decode cX6_worst 104 = .ok (.iload_n 2, 1) := by decide +kernel
theorem dX6_worst_105 : decode cX6_worst 105 = .ok (.istore_n 2, 1) := by decide +kernel
theorem dX6_worst_106 : decode cX6_worst 106 = .ok (.iinc 3 1, 3) := by decide +kernel
theorem dX6_worst_109 : decode cX6_worst 109 = .ok (.goto (-101), 3) := by decide +kernel
theorem dX6_worst_112 : decode cX6_worst 112 = .ok (.iload_n 1, 1) := by decide +kernel
theorem dX6_worst_113 : decode cX6_worst 113 = .ok (.ireturn, 1) := by decide +kernel
theorem dX6_plays_0 : decode cX6_plays 0 = .ok (.aload_n 0, 1) := by decide +kernel
theorem dX6_plays_1 : decode cX6_plays 1 = .ok (.iload_n 1, 1) := by decide +kernel
theorem dX6_plays_2 : decode cX6_plays 2 = .ok (.bipush 15, 2) := by decide +kernel
theorem dX6_plays_4 : decode cX6_plays 4 = .ok (.invokevirtual 59, 3) := by decide +kernel
theorem dX6_plays_7 : decode cX6_plays 7 = .ok (.bipush 40, 2) := by decide +kernel
theorem dX6_plays_9 : decode cX6_plays 9 = .ok (.if_icmp .ge 13, 3) := by decide +kernel
theorem dX6_plays_12 : decode cX6_plays 12 = .ok (.aload_n 0, 1) := by decide +kernel
theorem dX6_plays_13 : decode cX6_plays 13 = .ok (.iload_n 1, 1) := by decide +kernel
theorem dX6_plays_14 : decode cX6_plays 14 = .ok (.bipush 15, 2) := by decide +kernel
theorem dX6_plays_16 : decode cX6_plays 16 = .ok (.invokevirtual 59, 3) := by decide +kernel
theorem dX6_plays_19 : decode cX6_plays 19 = .ok (.goto 5, 3) := by decide +kernel
theorem dX6_plays_22 : decode cX6_plays 22 = .ok (.bipush 40, 2) := by decide +kernel
theorem dX6_plays_24 : decode cX6_plays 24 = .ok (.istore_n 3, 1) := by decide +kernel
theorem dX6_plays_25 : decode cX6_plays 25 = .ok (.iconst 0, 1) := by decide +kernel
theorem dX6_plays_26 : decode cX6_plays 26 = .ok (.istore 4, 2) := by decide +kernel
theorem dX6_plays_28 : decode cX6_plays 28 = .ok (.iconst 0, 1) := by decide +kernel
theorem dX6_plays_29 : decode cX6_plays 29 = .ok (.istore 5, 2) := by decide +kernel
theorem dX6_plays_31 : decode cX6_plays 31 = .ok (.iconst 0, 1) := by decide +kernel
theorem dX6_plays_32 : decode cX6_plays 32 = .ok (.istore 6, 2) := by decide +kernel
theorem dX6_plays_34 : decode cX6_plays 34 = .ok (.aload_n 0, 1) := by decide +kernel
theorem dX6_plays_35 : decode cX6_plays 35 = .ok (.iload_n 1, 1) := by decide +kernel
theorem dX6_plays_36 : decode cX6_plays 36 = .ok (.bipush 15, 2) := by decide +kernel
theorem dX6_plays_38 : decode cX6_plays 38 = .ok (.invokevirtual 59, 3) := by decide +kernel
theorem dX6_plays_41 : decode cX6_plays 41 = .ok (.iload_n 3, 1) := by decide +kernel
theorem dX6_plays_42 : decode cX6_plays 42 = .ok (.isub, 1) := by decide +kernel
theorem dX6_plays_43 : decode cX6_plays 43 = .ok (.istore 7, 2) := by decide +kernel
theorem dX6_plays_45 : decode cX6_plays 45 = .ok (.iload 7, 2) := by decide +kernel
theorem dX6_plays_47 : decode cX6_plays 47 = .ok (.aload_n 0, 1) := by decide +kernel
theorem dX6_plays_48 : decode cX6_plays 48 = .ok (.iload_n 1, 1) := by decide +kernel
theorem dX6_plays_49 : decode cX6_plays 49 = .ok (.bipush 15, 2) := by decide +kernel
theorem dX6_plays_51 : decode cX6_plays 51 = .ok (.invokevirtual 59, 3) := by decide +kernel
theorem dX6_plays_54 : decode cX6_plays 54 = .ok (.if_icmp .ge 134, 3) := by decide +kernel
theorem dX6_plays_57 : decode cX6_plays 57 = .ok (.aload_n 0, 1) := by decide +kernel
theorem dX6_plays_58 : decode cX6_plays 58 = .ok (.iload_n 1, 1) := by decide +kernel
theorem dX6_plays_59 : decode cX6_plays 59 = .ok (.bipush 16, 2) := by decide +kernel
theorem dX6_plays_61 : decode cX6_plays 61 = .ok (.iload 7, 2) := by decide +kernel
theorem dX6_plays_63 : decode cX6_plays 63 = .ok (.bipush 40, 2) := by decide +kernel
theorem dX6_plays_65 : decode cX6_plays 65 = .ok (.irem, 1) := by decide +kernel
theorem dX6_plays_66 : decode cX6_plays 66 = .ok (.iadd, 1) := by decide +kernel
theorem dX6_plays_67 : decode cX6_plays 67 = .ok (.invokevirtual 59, 3) := by decide +kernel
theorem dX6_plays_70 : decode cX6_plays 70 = .ok (.istore 8, 2) := by decide +kernel
theorem dX6_plays_72 : decode cX6_plays 72 = .ok (.iload 6, 2) := by decide +kernel
theorem dX6_plays_74 : decode cX6_plays 74 = .ok (.ifCond .eq 24, 3) := by decide +kernel
theorem dX6_plays_77 : decode cX6_plays 77 = .ok (.aload_n 0, 1) := by decide +kernel
theorem dX6_plays_78 : decode cX6_plays 78 = .ok (.iload_n 1, 1) := by decide +kernel
theorem dX6_plays_79 : decode cX6_plays 79 = .ok (.iconst 0, 1) := by decide +kernel
theorem dX6_plays_80 : decode cX6_plays 80 = .ok (.invokevirtual 59, 3) := by decide +kernel
theorem dX6_plays_83 : decode cX6_plays 83 = .ok (.aload_n 0, 1) := by decide +kernel
theorem dX6_plays_84 : decode cX6_plays 84 = .ok (.iload_n 1, 1) := by decide +kernel
theorem dX6_plays_85 : decode cX6_plays 85 = .ok (.iconst 1, 1) := by decide +kernel
theorem dX6_plays_86 : decode cX6_plays 86 = .ok (.invokevirtual 59, 3) := by decide +kernel
theorem dX6_plays_89 : decode cX6_plays 89 = .ok (.iload_n 2, 1) := by decide +kernel
theorem dX6_plays_90 : decode cX6_plays 90 = .ok (.iload 8, 2) := by decide +kernel
theorem dX6_plays_92 : decode cX6_plays 92 = .ok (.invokestatic 96, 3) := by decide +kernel
theorem dX6_plays_95 : decode cX6_plays 95 = .ok (.goto 20, 3) := by decide +kernel
theorem dX6_plays_98 : decode cX6_plays 98 = .ok (.aload_n 0, 1) := by decide +kernel
theorem dX6_plays_99 : decode cX6_plays 99 = .ok (.iload_n 1, 1) := by decide +kernel
theorem dX6_plays_100 : decode cX6_plays 100 = .ok (.iconst 0, 1) := by decide +kernel
theorem dX6_plays_101 : decode cX6_plays 101 = .ok (.invokevirtual 59, 3) := by decide +kernel
theorem dX6_plays_104 : decode cX6_plays 104 = .ok (.aload_n 0, 1) := by decide +kernel
theorem dX6_plays_105 : decode cX6_plays 105 = .ok (.iload_n 1, 1) := by decide +kernel
theorem dX6_plays_106 : decode cX6_plays 106 = .ok (.iconst 1, 1) := by decide +kernel
theorem dX6_plays_107 : decode cX6_plays 107 = .ok (.invokevirtual 59, 3) := by decide +kernel
theorem dX6_plays_110 : decode cX6_plays 110 = .ok (.iload 8, 2) := by decide +kernel
theorem dX6_plays_112 : decode cX6_plays 112 = .ok (.invokestatic 93, 3) := by decide +kernel
theorem dX6_plays_115 : decode cX6_plays 115 = .ok (.istore 9, 2) := by decide +kernel
theorem dX6_plays_117 : decode cX6_plays 117 = .ok (.iload 9, 2) := by decide +kernel
theorem dX6_plays_119 : decode cX6_plays 119 = .ok (.ifCond .eq 10, 3) := by decide +kernel
theorem dX6_plays_122 : decode cX6_plays 122 = .ok (.iload 5, 2) := by decide +kernel
theorem dX6_plays_124 : decode cX6_plays 124 = .ok (.iconst 1, 1) := by decide +kernel
theorem dX6_plays_125 : decode cX6_plays 125 = .ok (.iadd, 1) := by decide +kernel
theorem dX6_plays_126 : decode cX6_plays 126 = .ok (.goto 4, 3) := by decide +kernel
theorem dX6_plays_129 : decode cX6_plays 129 = .ok (.iconst 0, 1) := by decide +kernel
theorem dX6_plays_130 : decode cX6_plays 130 = .ok (.istore 5, 2) := by decide +kernel
theorem dX6_plays_132 : decode cX6_plays 132 = .ok (.iload 5, 2) := by decide +kernel
theorem dX6_plays_134 : decode cX6_plays 134 = .ok (.aload_n 0, 1) := by decide +kernel
theorem dX6_plays_135 : decode cX6_plays 135 = .ok (.iload_n 1, 1) := by decide +kernel
theorem dX6_plays_136 : decode cX6_plays 136 = .ok (.iload 6, 2) := by decide +kernel
theorem dX6_plays_138 : decode cX6_plays 138 = .ok (.ifCond .eq 7, 3) := by decide +kernel
theorem dX6_plays_141 : decode cX6_plays 141 = .ok (.iconst 4, 1) := by decide +kernel
theorem dX6_plays_142 : decode cX6_plays 142 = .ok (.goto 4, 3) := by decide +kernel
theorem dX6_plays_145 : decode cX6_plays 145 = .ok (.iconst 3, 1) := by decide +kernel
theorem dX6_plays_146 : decode cX6_plays 146 = .ok (.invokevirtual 59, 3) := by decide +kernel
theorem dX6_plays_149 : decode cX6_plays 149 = .ok (.if_icmp .le 33, 3) := by decide +kernel
theorem dX6_plays_152 : decode cX6_plays 152 = .ok (.iload 4, 2) := by decide +kernel
theorem dX6_plays_154 : decode cX6_plays 154 = .ok (.iload 6, 2) := by decide +kernel
theorem dX6_plays_156 : decode cX6_plays 156 = .ok (.ifCond .eq 7, 3) := by decide +kernel
theorem dX6_plays_159 : decode cX6_plays 159 = .ok (.iconst 0, 1) := by decide +kernel
theorem dX6_plays_160 : decode cX6_plays 160 = .ok (.goto 4, 3) := by decide +kernel
theorem dX6_plays_163 : decode cX6_plays 163 = .ok (.iconst 1, 1) := by decide +kernel
theorem dX6_plays_164 : decode cX6_plays 164 = .ok (.iadd, 1) := by decide +kernel
theorem dX6_plays_165 : decode cX6_plays 165 = .ok (.istore 4, 2) := by decide +kernel
theorem dX6_plays_167 : decode cX6_plays 167 = .ok (.iload 6, 2) := by decide +kernel
theorem dX6_plays_169 : decode cX6_plays 169 = .ok (.ifCond .ne 7, 3) := by decide +kernel
theorem dX6_plays_172 : decode cX6_plays 172 = .ok (.iconst 1, 1) := by decide +kernel
theorem dX6_plays_173 : decode cX6_plays 173 = .ok (.goto 4, 3) := by decide +kernel
theorem dX6_plays_176 : decode cX6_plays 176 = .ok (.iconst 0, 1) := by decide +kernel
theorem dX6_plays_177 : decode cX6_plays 177 = .ok (.istore 6, 2) := by decide +kernel
theorem dX6_plays_179 : decode cX6_plays 179 = .ok (.iconst 0, 1) := by decide +kernel
theorem dX6_plays_180 : decode cX6_plays 180 = .ok (.istore 5, 2) := by decide +kernel
theorem dX6_plays_182 : decode cX6_plays 182 = .ok (.iinc 7 1, 3) := by decide +kernel
theorem dX6_plays_185 : decode cX6_plays 185 = .ok (.goto (-140), 3) := by decide +kernel
theorem dX6_plays_188 : decode cX6_plays 188 = .ok (.iload 4, 2) := by decide +kernel
theorem dX6_plays_190 : decode cX6_plays 190 = .ok (.ireturn, 1) := by decide +kernel
theorem dX6_replay_0 : decode cX6_replay 0 = .ok (.aload_n 0, 1) := by decide +kernel
theorem dX6_replay_1 : decode cX6_replay 1 = .ok (.iload_n 1, 1) := by decide +kernel
theorem dX6_replay_2 : decode cX6_replay 2 = .ok (.invokevirtual 52, 3) := by decide +kernel
theorem dX6_replay_5 : decode cX6_replay 5 = .ok (.ifCond .eq 23, 3) := by decide +kernel
theorem dX6_replay_8 : decode cX6_replay 8 = .ok (.iload_n 2, 1) := by decide +kernel
theorem dX6_replay_9 : decode cX6_replay 9 = .ok (.iconst 0, 1) := by decide +kernel
theorem dX6_replay_10 : decode cX6_replay 10 = .ok (.sipush 1000, 3) := by decide +kernel
theorem dX6_replay_13 : decode cX6_replay 13 = .ok (.invokestatic 32, 3) := by decide +kernel
theorem dX6_replay_16 : decode cX6_replay 16 = .ok (.ifCond .eq 12, 3) := by decide +kernel
theorem dX6_replay_19 : decode cX6_replay 19 = .ok (.aload_n 0, 1) := by decide +kernel
theorem dX6_replay_20 : decode cX6_replay 20 = .ok (.iload_n 1, 1) := by decide +kernel
theorem dX6_replay_21 : decode cX6_replay 21 = .ok (.iload_n 2, 1) := by decide +kernel
theorem dX6_replay_22 : decode cX6_replay 22 = .ok (.invokevirtual 134, 3) := by decide +kernel
theorem dX6_replay_25 : decode cX6_replay 25 = .ok (.goto 6, 3) := by decide +kernel
theorem dX6_replay_28 : decode cX6_replay 28 = .ok (.sipush (-20001), 3) := by decide +kernel
theorem dX6_replay_31 : decode cX6_replay 31 = .ok (.ireturn, 1) := by decide +kernel
theorem dX6_leastDeadband_0 : decode cX6_leastDeadband 0 = .ok (.aload_n 0, 1) := by decide +kernel
theorem dX6_leastDeadband_1 : decode cX6_leastDeadband 1 = .ok (.iload_n 1, 1) := by decide +kernel
theorem dX6_leastDeadband_2 : decode cX6_leastDeadband 2 = .ok (.invokevirtual 52, 3) := by decide +kernel
theorem dX6_leastDeadband_5 : decode cX6_leastDeadband 5 = .ok (.ifCond .eq 13, 3) := by decide +kernel
theorem dX6_leastDeadband_8 : decode cX6_leastDeadband 8 = .ok (.iload_n 2, 1) := by decide +kernel
theorem dX6_leastDeadband_9 : decode cX6_leastDeadband 9 = .ok (.iconst 0, 1) := by decide +kernel
theorem dX6_leastDeadband_10 : decode cX6_leastDeadband 10 = .ok (.bipush 40, 2) := by decide +kernel
theorem dX6_leastDeadband_12 : decode cX6_leastDeadband 12 = .ok (.invokestatic 32, 3) := by decide +kernel
theorem dX6_leastDeadband_15 : decode cX6_leastDeadband 15 = .ok (.ifCond .ne 7, 3) := by decide +kernel
theorem dX6_leastDeadband_18 : decode cX6_leastDeadband 18 = .ok (.sipush (-20001), 3) := by decide +kernel
theorem dX6_leastDeadband_21 : decode cX6_leastDeadband 21 = .ok (.ireturn, 1) := by decide +kernel
theorem dX6_leastDeadband_22 : decode cX6_leastDeadband 22 = .ok (.iconst 0, 1) := by decide +kernel
theorem dX6_leastDeadband_23 : decode cX6_leastDeadband 23 = .ok (.istore_n 3, 1) := by decide +kernel
theorem dX6_leastDeadband_24 : decode cX6_leastDeadband 24 = .ok (.iload_n 3, 1) := by decide +kernel
theorem dX6_leastDeadband_25 : decode cX6_leastDeadband 25 = .ok (.sipush 1000, 3) := by decide +kernel
theorem dX6_leastDeadband_28 : decode cX6_leastDeadband 28 = .ok (.if_icmp .gt 21, 3) := by decide +kernel
theorem dX6_leastDeadband_31 : decode cX6_leastDeadband 31 = .ok (.aload_n 0, 1) := by decide +kernel
theorem dX6_leastDeadband_32 : decode cX6_leastDeadband 32 = .ok (.iload_n 1, 1) := by decide +kernel
theorem dX6_leastDeadband_33 : decode cX6_leastDeadband 33 = .ok (.iload_n 3, 1) := by decide +kernel
theorem dX6_leastDeadband_34 : decode cX6_leastDeadband 34 = .ok (.invokevirtual 134, 3) := by decide +kernel
theorem dX6_leastDeadband_37 : decode cX6_leastDeadband 37 = .ok (.iload_n 2, 1) := by decide +kernel
theorem dX6_leastDeadband_38 : decode cX6_leastDeadband 38 = .ok (.if_icmp .gt 5, 3) := by decide +kernel
theorem dX6_leastDeadband_41 : decode cX6_leastDeadband 41 = .ok (.iload_n 3, 1) := by decide +kernel
theorem dX6_leastDeadband_42 : decode cX6_leastDeadband 42 = .ok (.ireturn, 1) := by decide +kernel
theorem dX6_leastDeadband_43 : decode cX6_leastDeadband 43 = .ok (.iinc 3 1, 3) := by decide +kernel
theorem dX6_leastDeadband_46 : decode cX6_leastDeadband 46 = .ok (.goto (-22), 3) := by decide +kernel
theorem dX6_leastDeadband_49 : decode cX6_leastDeadband 49 = .ok (.sipush (-20009), 3) := by decide +kernel
theorem dX6_leastDeadband_52 : decode cX6_leastDeadband 52 = .ok (.ireturn, 1) := by decide +kernel
theorem dX6_type_0 : decode cX6_type 0 = .ok (.iload_n 1, 1) := by decide +kernel
theorem dX6_type_1 : decode cX6_type 1 = .ok (.bipush 32, 2) := by decide +kernel
theorem dX6_type_3 : decode cX6_type 3 = .ok (.bipush 126, 2) := by decide +kernel
theorem dX6_type_5 : decode cX6_type 5 = .ok (.invokestatic 32, 3) := by decide +kernel
theorem dX6_type_8 : decode cX6_type 8 = .ok (.ifCond .ne 7, 3) := by decide +kernel
theorem dX6_type_11 : decode cX6_type 11 = .ok (.sipush (-20001), 3) := by decide +kernel
theorem dX6_type_14 : decode cX6_type 14 = .ok (.ireturn, 1) := by decide +kernel
theorem dX6_type_15 : decode cX6_type 15 = .ok (.aload_n 0, 1) := by decide +kernel
theorem dX6_type_16 : decode cX6_type 16 = .ok (.getfield 137, 3) := by decide +kernel
theorem dX6_type_19 : decode cX6_type 19 = .ok (.bipush 80, 2) := by decide +kernel
theorem dX6_type_21 : decode cX6_type 21 = .ok (.if_icmp .ne 7, 3) := by decide +kernel
theorem dX6_type_24 : decode cX6_type 24 = .ok (.sipush (-20003), 3) := by decide +kernel
theorem dX6_type_27 : decode cX6_type 27 = .ok (.ireturn, 1) := by decide +kernel
theorem dX6_type_28 : decode cX6_type 28 = .ok (.aload_n 0, 1) := by decide +kernel
theorem dX6_type_29 : decode cX6_type 29 = .ok (.getfield 22, 3) := by decide +kernel
theorem dX6_type_32 : decode cX6_type 32 = .ok (.aload_n 0, 1) := by decide +kernel
theorem dX6_type_33 : decode cX6_type 33 = .ok (.getfield 137, 3) := by decide +kernel
theorem dX6_type_36 : decode cX6_type 36 = .ok (.iload_n 1, 1) := by decide +kernel
theorem dX6_type_37 : decode cX6_type 37 = .ok (.iastore, 1) := by decide +kernel
theorem dX6_type_38 : decode cX6_type 38 = .ok (.aload_n 0, 1) := by decide +kernel
theorem dX6_type_39 : decode cX6_type 39 = .ok (.dup, 1) := by decide +kernel
theorem dX6_type_40 : decode cX6_type 40 = .ok (.getfield 137, 3) := by decide +kernel
theorem dX6_type_43 : decode cX6_type 43 = .ok (.iconst 1, 1) := by decide +kernel
theorem dX6_type_44 : decode cX6_type 44 = .ok (.iadd, 1) := by decide +kernel
theorem dX6_type_45 : decode cX6_type 45 = .ok (.putfield 137, 3) := by decide +kernel
theorem dX6_type_48 : decode cX6_type 48 = .ok (.aload_n 0, 1) := by decide +kernel
theorem dX6_type_49 : decode cX6_type 49 = .ok (.getfield 137, 3) := by decide +kernel
theorem dX6_type_52 : decode cX6_type 52 = .ok (.ireturn, 1) := by decide +kernel
theorem dX6_clear_0 : decode cX6_clear 0 = .ok (.aload_n 0, 1) := by decide +kernel
theorem dX6_clear_1 : decode cX6_clear 1 = .ok (.getfield 137, 3) := by decide +kernel
theorem dX6_clear_4 : decode cX6_clear 4 = .ok (.istore_n 1, 1) := by decide +kernel
theorem dX6_clear_5 : decode cX6_clear 5 = .ok (.aload_n 0, 1) := by decide +kernel
theorem dX6_clear_6 : decode cX6_clear 6 = .ok (.iconst 0, 1) := by decide +kernel
theorem dX6_clear_7 : decode cX6_clear 7 = .ok (.putfield 137, 3) := by decide +kernel
theorem dX6_clear_10 : decode cX6_clear 10 = .ok (.iload_n 1, 1) := by decide +kernel
theorem dX6_clear_11 : decode cX6_clear 11 = .ok (.ireturn, 1) := by decide +kernel
theorem dX6_sign_0 : decode cX6_sign 0 = .ok (.aload_n 0, 1) := by decide +kernel
theorem dX6_sign_1 : decode cX6_sign 1 = .ok (.getfield 140, 3) := by decide +kernel
theorem dX6_sign_4 : decode cX6_sign 4 = .ok (.aload_n 0, 1) := by decide +kernel
theorem dX6_sign_5 : decode cX6_sign 5 = .ok (.getfield 137, 3) := by decide +kernel
theorem dX6_sign_8 : decode cX6_sign 8 = .ok (.if_icmp .ge 15, 3) := by decide +kernel
theorem dX6_sign_11 : decode cX6_sign 11 = .ok (.aload_n 0, 1) := by decide +kernel
theorem dX6_sign_12 : decode cX6_sign 12 = .ok (.getfield 22, 3) := by decide +kernel
theorem dX6_sign_15 : decode cX6_sign 15 = .ok (.aload_n 0, 1) := by decide +kernel
theorem dX6_sign_16 : decode cX6_sign 16 = .ok (.getfield 140, 3) := by decide +kernel
theorem dX6_sign_19 : decode cX6_sign 19 = .ok (.iaload, 1) := by decide +kernel
theorem dX6_sign_20 : decode cX6_sign 20 = .ok (.goto 4, 3) := by decide +kernel
theorem dX6_sign_23 : decode cX6_sign 23 = .ok (.iconst (-1), 1) := by decide +kernel
theorem dX6_sign_24 : decode cX6_sign 24 = .ok (.ireturn, 1) := by decide +kernel
theorem dX6_takes_0 : decode cX6_takes 0 = .ok (.aload_n 0, 1) := by decide +kernel
theorem dX6_takes_1 : decode cX6_takes 1 = .ok (.invokevirtual 143, 3) := by decide +kernel
theorem dX6_takes_4 : decode cX6_takes 4 = .ok (.iload_n 1, 1) := by decide +kernel
theorem dX6_takes_5 : decode cX6_takes 5 = .ok (.if_icmp .ne 7, 3) := by decide +kernel
theorem dX6_takes_8 : decode cX6_takes 8 = .ok (.iconst 1, 1) := by decide +kernel
theorem dX6_takes_9 : decode cX6_takes 9 = .ok (.goto 4, 3) := by decide +kernel
theorem dX6_takes_12 : decode cX6_takes 12 = .ok (.iconst 0, 1) := by decide +kernel
theorem dX6_takes_13 : decode cX6_takes 13 = .ok (.istore_n 2, 1) := by decide +kernel
theorem dX6_takes_14 : decode cX6_takes 14 = .ok (.aload_n 0, 1) := by decide +kernel
theorem dX6_takes_15 : decode cX6_takes 15 = .ok (.dup, 1) := by decide +kernel
theorem dX6_takes_16 : decode cX6_takes 16 = .ok (.getfield 140, 3) := by decide +kernel
theorem dX6_takes_19 : decode cX6_takes 19 = .ok (.iload_n 2, 1) := by decide +kernel
theorem dX6_takes_20 : decode cX6_takes 20 = .ok (.ifCond .eq 7, 3) := by decide +kernel
theorem dX6_takes_23 : decode cX6_takes 23 = .ok (.iconst 1, 1) := by decide +kernel
theorem dX6_takes_24 : decode cX6_takes 24 = .ok (.goto 4, 3) := by decide +kernel
theorem dX6_takes_27 : decode cX6_takes 27 = .ok (.iconst 0, 1) := by decide +kernel
theorem dX6_takes_28 : decode cX6_takes 28 = .ok (.iadd, 1) := by decide +kernel
theorem dX6_takes_29 : decode cX6_takes 29 = .ok (.putfield 140, 3) := by decide +kernel
theorem dX6_takes_32 : decode cX6_takes 32 = .ok (.iload_n 2, 1) := by decide +kernel
theorem dX6_takes_33 : decode cX6_takes 33 = .ok (.ireturn, 1) := by decide +kernel
theorem dX6_three_0 : decode cX6_three 0 = .ok (.aload_n 0, 1) := by decide +kernel
theorem dX6_three_1 : decode cX6_three 1 = .ok (.iload_n 1, 1) := by decide +kernel
theorem dX6_three_2 : decode cX6_three 2 = .ok (.invokevirtual 146, 3) := by decide +kernel
theorem dX6_three_5 : decode cX6_three 5 = .ok (.ifCond .eq 23, 3) := by decide +kernel
theorem dX6_three_8 : decode cX6_three 8 = .ok (.aload_n 0, 1) := by decide +kernel
theorem dX6_three_9 : decode cX6_three 9 = .ok (.iload_n 2, 1) := by decide +kernel
theorem dX6_three_10 : decode cX6_three 10 = .ok (.invokevirtual 146, 3) := by decide +kernel
theorem dX6_three_13 : decode cX6_three 13 = .ok (.ifCond .eq 15, 3) := by decide +kernel
theorem dX6_three_16 : decode cX6_three 16 = .ok (.aload_n 0, 1) := by decide +kernel
theorem dX6_three_17 : decode cX6_three 17 = .ok (.iload_n 3, 1) := by decide +kernel
theorem dX6_three_18 : decode cX6_three 18 = .ok (.invokevirtual 146, 3) := by decide +kernel
theorem dX6_three_21 : decode cX6_three 21 = .ok (.ifCond .eq 7, 3) := by decide +kernel
theorem dX6_three_24 : decode cX6_three 24 = .ok (.iconst 1, 1) := by decide +kernel
theorem dX6_three_25 : decode cX6_three 25 = .ok (.goto 4, 3) := by decide +kernel
theorem dX6_three_28 : decode cX6_three 28 = .ok (.iconst 0, 1) := by decide +kernel
theorem dX6_three_29 : decode cX6_three 29 = .ok (.ireturn, 1) := by decide +kernel
theorem dX6_number_0 : decode cX6_number 0 = .ok (.iconst 0, 1) := by decide +kernel
theorem dX6_number_1 : decode cX6_number 1 = .ok (.istore_n 2, 1) := by decide +kernel
theorem dX6_number_2 : decode cX6_number 2 = .ok (.iconst 0, 1) := by decide +kernel
theorem dX6_number_3 : decode cX6_number 3 = .ok (.istore_n 3, 1) := by decide +kernel
theorem dX6_number_4 : decode cX6_number 4 = .ok (.iload_n 2, 1) := by decide +kernel
theorem dX6_number_5 : decode cX6_number 5 = .ok (.iconst 5, 1) := by decide +kernel
theorem dX6_number_6 : decode cX6_number 6 = .ok (.if_icmp .ge 46, 3) := by decide +kernel
theorem dX6_number_9 : decode cX6_number 9 = .ok (.aload_n 0, 1) := by decide +kernel
theorem dX6_number_10 : decode cX6_number 10 = .ok (.invokevirtual 143, 3) := by decide +kernel
theorem dX6_number_13 : decode cX6_number 13 = .ok (.bipush 48, 2) := by decide +kernel
theorem dX6_number_15 : decode cX6_number 15 = .ok (.bipush 57, 2) := by decide +kernel
theorem dX6_number_17 : decode cX6_number 17 = .ok (.invokestatic 32, 3) := by decide +kernel
theorem dX6_number_20 : decode cX6_number 20 = .ok (.ifCond .eq 32, 3) := by decide +kernel
theorem dX6_number_23 : decode cX6_number 23 = .ok (.bipush 10, 2) := by decide +kernel
theorem dX6_number_25 : decode cX6_number 25 = .ok (.iload_n 3, 1) := by decide +kernel
theorem dX6_number_26 : decode cX6_number 26 = .ok (.imul, 1) := by decide +kernel
theorem dX6_number_27 : decode cX6_number 27 = .ok (.aload_n 0, 1) := by decide +kernel
theorem dX6_number_28 : decode cX6_number 28 = .ok (.invokevirtual 143, 3) := by decide +kernel
theorem dX6_number_31 : decode cX6_number 31 = .ok (.iadd, 1) := by decide +kernel
theorem dX6_number_32 : decode cX6_number 32 = .ok (.bipush 48, 2) := by decide +kernel
theorem dX6_number_34 : decode cX6_number 34 = .ok (.isub, 1) := by decide +kernel
theorem dX6_number_35 : decode cX6_number 35 = .ok (.istore_n 3, 1) := by decide +kernel
theorem dX6_number_36 : decode cX6_number 36 = .ok (.aload_n 0, 1) := by decide +kernel
theorem dX6_number_37 : decode cX6_number 37 = .ok (.dup, 1) := by decide +kernel
theorem dX6_number_38 : decode cX6_number 38 = .ok (.getfield 140, 3) := by decide +kernel
theorem dX6_number_41 : decode cX6_number 41 = .ok (.iconst 1, 1) := by decide +kernel
theorem dX6_number_42 : decode cX6_number 42 = .ok (.iadd, 1) := by decide +kernel
theorem dX6_number_43 : decode cX6_number 43 = .ok (.putfield 140, 3) := by decide +kernel
theorem dX6_number_46 : decode cX6_number 46 = .ok (.iinc 2 1, 3) := by decide +kernel
theorem dX6_number_49 : decode cX6_number 49 = .ok (.goto (-45), 3) := by decide +kernel
theorem dX6_number_52 : decode cX6_number 52 = .ok (.aload_n 0, 1) := by decide +kernel
theorem dX6_number_53 : decode cX6_number 53 = .ok (.getfield 25, 3) := by decide +kernel
theorem dX6_number_56 : decode cX6_number 56 = .ok (.iconst 3, 1) := by decide +kernel
theorem dX6_number_57 : decode cX6_number 57 = .ok (.aload_n 0, 1) := by decide +kernel
theorem dX6_number_58 : decode cX6_number 58 = .ok (.getfield 149, 3) := by decide +kernel
theorem dX6_number_61 : decode cX6_number 61 = .ok (.imul, 1) := by decide +kernel
theorem dX6_number_62 : decode cX6_number 62 = .ok (.iload_n 1, 1) := by decide +kernel
theorem dX6_number_63 : decode cX6_number 63 = .ok (.iadd, 1) := by decide +kernel
theorem dX6_number_64 : decode cX6_number 64 = .ok (.iload_n 3, 1) := by decide +kernel
theorem dX6_number_65 : decode cX6_number 65 = .ok (.iastore, 1) := by decide +kernel
theorem dX6_number_66 : decode cX6_number 66 = .ok (.iload_n 2, 1) := by decide +kernel
theorem dX6_number_67 : decode cX6_number 67 = .ok (.ifCond .le 7, 3) := by decide +kernel
theorem dX6_number_70 : decode cX6_number 70 = .ok (.iconst 1, 1) := by decide +kernel
theorem dX6_number_71 : decode cX6_number 71 = .ok (.goto 4, 3) := by decide +kernel
theorem dX6_number_74 : decode cX6_number 74 = .ok (.iconst 0, 1) := by decide +kernel
theorem dX6_number_75 : decode cX6_number 75 = .ok (.ireturn, 1) := by decide +kernel
theorem dX6_word_0 : decode cX6_word 0 = .ok (.iconst 0, 1) := by decide +kernel
theorem dX6_word_1 : decode cX6_word 1 = .ok (.istore_n 1, 1) := by decide +kernel
theorem dX6_word_2 : decode cX6_word 2 = .ok (.iconst 0, 1) := by decide +kernel
theorem dX6_word_3 : decode cX6_word 3 = .ok (.istore_n 2, 1) := by decide +kernel
theorem dX6_word_4 : decode cX6_word 4 = .ok (.aload_n 0, 1) := by decide +kernel
theorem dX6_word_5 : decode cX6_word 5 = .ok (.invokevirtual 143, 3) := by decide +kernel
theorem dX6_word_8 : decode cX6_word 8 = .ok (.bipush 97, 2) := by decide +kernel
theorem dX6_word_10 : decode cX6_word 10 = .ok (.if_icmp .ne 19, 3) := by decide +kernel
theorem dX6_word_13 : decode cX6_word 13 = .ok (.iconst 1, 1) := by decide +kernel
theorem dX6_word_14 : decode cX6_word 14 = .ok (.istore_n 1, 1) := by decide +kernel
theorem dX6_word_15 : decode cX6_word 15 = .ok (.aload_n 0, 1) := by decide +kernel
theorem dX6_word_16 : decode cX6_word 16 = .ok (.bipush 97, 2) := by decide +kernel
theorem dX6_word_18 : decode cX6_word 18 = .ok (.bipush 99, 2) := by decide +kernel
theorem dX6_word_20 : decode cX6_word 20 = .ok (.bipush 107, 2) := by decide +kernel
theorem dX6_word_22 : decode cX6_word 22 = .ok (.invokevirtual 152, 3) := by decide +kernel
theorem dX6_word_25 : decode cX6_word 25 = .ok (.istore_n 2, 1) := by decide +kernel
theorem dX6_word_26 : decode cX6_word 26 = .ok (.goto 171, 3) := by decide +kernel
theorem dX6_word_29 : decode cX6_word 29 = .ok (.aload_n 0, 1) := by decide +kernel
theorem dX6_word_30 : decode cX6_word 30 = .ok (.invokevirtual 143, 3) := by decide +kernel
theorem dX6_word_33 : decode cX6_word 33 = .ok (.bipush 116, 2) := by decide +kernel
theorem dX6_word_35 : decode cX6_word 35 = .ok (.if_icmp .ne 36, 3) := by decide +kernel
theorem dX6_word_38 : decode cX6_word 38 = .ok (.iconst 3, 1) := by decide +kernel
theorem dX6_word_39 : decode cX6_word 39 = .ok (.istore_n 1, 1) := by decide +kernel
theorem dX6_word_40 : decode cX6_word 40 = .ok (.aload_n 0, 1) := by decide +kernel
theorem dX6_word_41 : decode cX6_word 41 = .ok (.bipush 116, 2) := by decide +kernel
theorem dX6_word_43 : decode cX6_word 43 = .ok (.bipush 105, 2) := by decide +kernel
theorem dX6_word_45 : decode cX6_word 45 = .ok (.bipush 99, 2) := by decide +kernel
theorem dX6_word_47 : decode cX6_word 47 = .ok (.invokevirtual 152, 3) := by decide +kernel
theorem dX6_word_50 : decode cX6_word 50 = .ok (.ifCond .eq 16, 3) := by decide +kernel
theorem dX6_word_53 : decode cX6_word 53 = .ok (.aload_n 0, 1) := by decide +kernel
theorem dX6_word_54 : decode cX6_word 54 = .ok (.bipush 107, 2) := by decide +kernel
theorem dX6_word_56 : decode cX6_word 56 = .ok (.invokevirtual 146, 3) := by decide +kernel
theorem dX6_word_59 : decode cX6_word 59 = .ok (.ifCond .eq 7, 3) := by decide +kernel
theorem dX6_word_62 : decode cX6_word 62 = .ok (.iconst 1, 1) := by decide +kernel
theorem dX6_word_63 : decode cX6_word 63 = .ok (.goto 4, 3) := by decide +kernel
theorem dX6_word_66 : decode cX6_word 66 = .ok (.iconst 0, 1) := by decide +kernel
theorem dX6_word_67 : decode cX6_word 67 = .ok (.istore_n 2, 1) := by decide +kernel
theorem dX6_word_68 : decode cX6_word 68 = .ok (.goto 129, 3) := by decide +kernel
theorem dX6_word_71 : decode cX6_word 71 = .ok (.aload_n 0, 1) := by decide +kernel
theorem dX6_word_72 : decode cX6_word 72 = .ok (.bipush 115, 2) := by decide +kernel
theorem dX6_word_74 : decode cX6_word 74 = .ok (.invokevirtual 146, 3) := by decide +kernel
theorem dX6_word_77 : decode cX6_word 77 = .ok (.ifCond .eq 120, 3) := by decide +kernel
theorem dX6_word_80 : decode cX6_word 80 = .ok (.aload_n 0, 1) := by decide +kernel
theorem dX6_word_81 : decode cX6_word 81 = .ok (.invokevirtual 143, 3) := by decide +kernel
theorem dX6_word_84 : decode cX6_word 84 = .ok (.bipush 104, 2) := by decide +kernel
theorem dX6_word_86 : decode cX6_word 86 = .ok (.if_icmp .ne 45, 3) := by decide +kernel
theorem dX6_word_89 : decode cX6_word 89 = .ok (.iconst 2, 1) := by decide +kernel
theorem dX6_word_90 : decode cX6_word 90 = .ok (.istore_n 1, 1) := by decide +kernel
theorem dX6_word_91 : decode cX6_word 91 = .ok (.aload_n 0, 1) := by decide +kernel
theorem dX6_word_92 : decode cX6_word 92 = .ok (.bipush 104, 2) := by decide +kernel
theorem dX6_word_94 : decode cX6_word 94 = .ok (.bipush 101, 2) := by decide +kernel
theorem dX6_word_96 : decode cX6_word 96 = .ok (.bipush 108, 2) := by decide +kernel
theorem dX6_word_98 : decode cX6_word 98 = .ok (.invokevirtual 152, 3) := by decide +kernel
theorem dX6_word_101 : decode cX6_word 101 = .ok (.ifCond .eq 25, 3) := by decide +kernel
theorem dX6_word_104 : decode cX6_word 104 = .ok (.aload_n 0, 1) := by decide +kernel
theorem dX6_word_105 : decode cX6_word 105 = .ok (.bipush 118, 2) := by decide +kernel
theorem dX6_word_107 : decode cX6_word 107 = .ok (.invokevirtual 146, 3) := by decide +kernel
theorem dX6_word_110 : decode cX6_word 110 = .ok (.ifCond .eq 16, 3) := by decide +kernel
theorem dX6_word_113 : decode cX6_word 113 = .ok (.aload_n 0, 1) := by decide +kernel
theorem dX6_word_114 : decode cX6_word 114 = .ok (.bipush 101, 2) := by decide +kernel
theorem dX6_word_116 : decode cX6_word 116 = .ok (.invokevirtual 146, 3) := by decide +kernel
theorem dX6_word_119 : decode cX6_word 119 = .ok (.ifCond .eq 7, 3) := by decide +kernel
theorem dX6_word_122 : decode cX6_word 122 = .ok (.iconst 1, 1) := by decide +kernel
theorem dX6_word_123 : decode cX6_word 123 = .ok (.goto 4, 3) := by decide +kernel
theorem dX6_word_126 : decode cX6_word 126 = .ok (.iconst 0, 1) := by decide +kernel
theorem dX6_word_127 : decode cX6_word 127 = .ok (.istore_n 2, 1) := by decide +kernel
theorem dX6_word_128 : decode cX6_word 128 = .ok (.goto 69, 3) := by decide +kernel
theorem dX6_word_131 : decode cX6_word 131 = .ok (.aload_n 0, 1) := by decide +kernel
theorem dX6_word_132 : decode cX6_word 132 = .ok (.invokevirtual 143, 3) := by decide +kernel
theorem dX6_word_135 : decode cX6_word 135 = .ok (.bipush 116, 2) := by decide +kernel
theorem dX6_word_137 : decode cX6_word 137 = .ok (.if_icmp .ne 36, 3) := by decide +kernel
theorem dX6_word_140 : decode cX6_word 140 = .ok (.iconst 4, 1) := by decide +kernel
theorem dX6_word_141 : decode cX6_word 141 = .ok (.istore_n 1, 1) := by decide +kernel
theorem dX6_word_142 : decode cX6_word 142 = .ok (.aload_n 0, 1) := by decide +kernel
theorem dX6_word_143 : decode cX6_word 143 = .ok (.bipush 116, 2) := by decide +kernel
theorem dX6_word_145 : decode cX6_word 145 = .ok (.bipush 97, 2) := by decide +kernel
theorem dX6_word_147 : decode cX6_word 147 = .ok (.bipush 116, 2) := by decide +kernel
theorem dX6_word_149 : decode cX6_word 149 = .ok (.invokevirtual 152, 3) := by decide +kernel
theorem dX6_word_152 : decode cX6_word 152 = .ok (.ifCond .eq 16, 3) := by decide +kernel
theorem dX6_word_155 : decode cX6_word 155 = .ok (.aload_n 0, 1) := by decide +kernel
theorem dX6_word_156 : decode cX6_word 156 = .ok (.bipush 101, 2) := by decide +kernel
theorem dX6_word_158 : decode cX6_word 158 = .ok (.invokevirtual 146, 3) := by decide +kernel
theorem dX6_word_161 : decode cX6_word 161 = .ok (.ifCond .eq 7, 3) := by decide +kernel
theorem dX6_word_164 : decode cX6_word 164 = .ok (.iconst 1, 1) := by decide +kernel
theorem dX6_word_165 : decode cX6_word 165 = .ok (.goto 4, 3) := by decide +kernel
theorem dX6_word_168 : decode cX6_word 168 = .ok (.iconst 0, 1) := by decide +kernel
theorem dX6_word_169 : decode cX6_word 169 = .ok (.istore_n 2, 1) := by decide +kernel
theorem dX6_word_170 : decode cX6_word 170 = .ok (.goto 27, 3) := by decide +kernel
theorem dX6_word_173 : decode cX6_word 173 = .ok (.aload_n 0, 1) := by decide +kernel
theorem dX6_word_174 : decode cX6_word 174 = .ok (.bipush 101, 2) := by decide +kernel
theorem dX6_word_176 : decode cX6_word 176 = .ok (.invokevirtual 146, 3) := by decide +kernel
theorem dX6_word_179 : decode cX6_word 179 = .ok (.ifCond .eq 16, 3) := by decide +kernel
theorem dX6_word_182 : decode cX6_word 182 = .ok (.aload_n 0, 1) := by decide +kernel
theorem dX6_word_183 : decode cX6_word 183 = .ok (.bipush 116, 2) := by decide +kernel
theorem dX6_word_185 : decode cX6_word 185 = .ok (.invokevirtual 146, 3) := by decide +kernel
theorem dX6_word_188 : decode cX6_word 188 = .ok (.ifCond .eq 7, 3) := by decide +kernel
theorem dX6_word_191 : decode cX6_word 191 = .ok (.iconst 1, 1) := by decide +kernel
theorem dX6_word_192 : decode cX6_word 192 = .ok (.goto 4, 3) := by decide +kernel
theorem dX6_word_195 : decode cX6_word 195 = .ok (.iconst 0, 1) := by decide +kernel
theorem dX6_word_196 : decode cX6_word 196 = .ok (.istore_n 2, 1) := by decide +kernel
theorem dX6_word_197 : decode cX6_word 197 = .ok (.aload_n 0, 1) := by decide +kernel
theorem dX6_word_198 : decode cX6_word 198 = .ok (.getfield 25, 3) := by decide +kernel
theorem dX6_word_201 : decode cX6_word 201 = .ok (.iconst 3, 1) := by decide +kernel
theorem dX6_word_202 : decode cX6_word 202 = .ok (.aload_n 0, 1) := by decide +kernel
theorem dX6_word_203 : decode cX6_word 203 = .ok (.getfield 149, 3) := by decide +kernel
theorem dX6_word_206 : decode cX6_word 206 = .ok (.imul, 1) := by decide +kernel
theorem dX6_word_207 : decode cX6_word 207 = .ok (.iload_n 1, 1) := by decide +kernel
theorem dX6_word_208 : decode cX6_word 208 = .ok (.iastore, 1) := by decide +kernel
theorem dX6_word_209 : decode cX6_word 209 = .ok (.iload_n 2, 1) := by decide +kernel
theorem dX6_word_210 : decode cX6_word 210 = .ok (.ifCond .eq 16, 3) := by decide +kernel
theorem dX6_word_213 : decode cX6_word 213 = .ok (.aload_n 0, 1) := by decide +kernel
theorem dX6_word_214 : decode cX6_word 214 = .ok (.bipush 32, 2) := by decide +kernel
theorem dX6_word_216 : decode cX6_word 216 = .ok (.invokevirtual 146, 3) := by decide +kernel
theorem dX6_word_219 : decode cX6_word 219 = .ok (.ifCond .eq 7, 3) := by decide +kernel
theorem dX6_word_222 : decode cX6_word 222 = .ok (.iconst 1, 1) := by decide +kernel
theorem dX6_word_223 : decode cX6_word 223 = .ok (.goto 4, 3) := by decide +kernel
theorem dX6_word_226 : decode cX6_word 226 = .ok (.iconst 0, 1) := by decide +kernel
theorem dX6_word_227 : decode cX6_word 227 = .ok (.ireturn, 1) := by decide +kernel
theorem dX6_readsCommand_0 : decode cX6_readsCommand 0 = .ok (.aload_n 0, 1) := by decide +kernel
theorem dX6_readsCommand_1 : decode cX6_readsCommand 1 = .ok (.invokevirtual 155, 3) := by decide +kernel
theorem dX6_readsCommand_4 : decode cX6_readsCommand 4 = .ok (.ifCond .eq 11, 3) := by decide +kernel
theorem dX6_readsCommand_7 : decode cX6_readsCommand 7 = .ok (.aload_n 0, 1) := by decide +kernel
theorem dX6_readsCommand_8 : decode cX6_readsCommand 8 = .ok (.iconst 1, 1) := by decide +kernel
theorem dX6_readsCommand_9 : decode cX6_readsCommand 9 = .ok (.invokevirtual 159, 3) := by decide +kernel
theorem dX6_readsCommand_12 : decode cX6_readsCommand 12 = .ok (.ifCond .ne 5, 3) := by decide +kernel
theorem dX6_readsCommand_15 : decode cX6_readsCommand 15 = .ok (.iconst 0, 1) := by decide +kernel
theorem dX6_readsCommand_16 : decode cX6_readsCommand 16 = .ok (.ireturn, 1) := by decide +kernel
theorem dX6_readsCommand_17 : decode cX6_readsCommand 17 = .ok (.aload_n 0, 1) := by decide +kernel
theorem dX6_readsCommand_18 : decode cX6_readsCommand 18 = .ok (.getfield 25, 3) := by decide +kernel
theorem dX6_readsCommand_21 : decode cX6_readsCommand 21 = .ok (.iconst 3, 1) := by decide +kernel
theorem dX6_readsCommand_22 : decode cX6_readsCommand 22 = .ok (.aload_n 0, 1) := by decide +kernel
theorem dX6_readsCommand_23 : decode cX6_readsCommand 23 = .ok (.getfield 149, 3) := by decide +kernel
theorem dX6_readsCommand_26 : decode cX6_readsCommand 26 = .ok (.imul, 1) := by decide +kernel
theorem dX6_readsCommand_27 : decode cX6_readsCommand 27 = .ok (.iaload, 1) := by decide +kernel
theorem dX6_readsCommand_28 : decode cX6_readsCommand 28 = .ok (.istore_n 1, 1) := by decide +kernel
theorem dX6_readsCommand_29 : decode cX6_readsCommand 29 = .ok (.iload_n 1, 1) := by decide +kernel
theorem dX6_readsCommand_30 : decode cX6_readsCommand 30 = .ok (.iconst 2, 1) := by decide +kernel
theorem dX6_readsCommand_31 : decode cX6_readsCommand 31 = .ok (.if_icmp .ne 26, 3) := by decide +kernel
theorem dX6_readsCommand_34 : decode cX6_readsCommand 34 = .ok (.aload_n 0, 1) := by decide +kernel
theorem dX6_readsCommand_35 : decode cX6_readsCommand 35 = .ok (.bipush 58, 2) := by decide +kernel
theorem dX6_readsCommand_37 : decode cX6_readsCommand 37 = .ok (.invokevirtual 146, 3) := by decide +kernel
theorem dX6_readsCommand_40 : decode cX6_readsCommand 40 = .ok (.ifCond .eq 15, 3) := by decide +kernel
theorem dX6_readsCommand_43 : decode cX6_readsCommand 43 = .ok (.aload_n 0, 1) := by decide +kernel
theorem dX6_readsCommand_44 : decode cX6_readsCommand 44 = .ok (.iconst 2, 1) := by decide +kernel
theorem dX6_readsCommand_45 : decode cX6_readsCommand 45 = .ok (.invokevirtual 159, 3) := by decide +kernel
theorem dX6_readsCommand_48 : decode cX6_readsCommand 48 = .ok (.ifCond .eq 7, 3) := by decide +kernel
theorem dX6_readsCommand_51 : decode cX6_readsCommand 51 = .ok (.iconst 1, 1) := by decide +kernel
theorem dX6_readsCommand_52 : decode cX6_readsCommand 52 = .ok (.goto 4, 3) := by decide +kernel
theorem dX6_readsCommand_55 : decode cX6_readsCommand 55 = .ok (.iconst 0, 1) := by decide +kernel
theorem dX6_readsCommand_56 : decode cX6_readsCommand 56 = .ok (.ireturn, 1) := by decide +kernel
theorem dX6_readsCommand_57 : decode cX6_readsCommand 57 = .ok (.iload_n 1, 1) := by decide +kernel
theorem dX6_readsCommand_58 : decode cX6_readsCommand 58 = .ok (.ifCond .le 5, 3) := by decide +kernel
theorem dX6_readsCommand_61 : decode cX6_readsCommand 61 = .ok (.iconst 1, 1) := by decide +kernel
theorem dX6_readsCommand_62 : decode cX6_readsCommand 62 = .ok (.ireturn, 1) := by decide +kernel
theorem dX6_readsCommand_63 : decode cX6_readsCommand 63 = .ok (.aload_n 0, 1) := by decide +kernel
theorem dX6_readsCommand_64 : decode cX6_readsCommand 64 = .ok (.bipush 61, 2) := by decide +kernel
theorem dX6_readsCommand_66 : decode cX6_readsCommand 66 = .ok (.invokevirtual 146, 3) := by decide +kernel
theorem dX6_readsCommand_69 : decode cX6_readsCommand 69 = .ok (.ifCond .ne 5, 3) := by decide +kernel
theorem dX6_readsCommand_72 : decode cX6_readsCommand 72 = .ok (.iconst 0, 1) := by decide +kernel
theorem dX6_readsCommand_73 : decode cX6_readsCommand 73 = .ok (.ireturn, 1) := by decide +kernel
theorem dX6_readsCommand_74 : decode cX6_readsCommand 74 = .ok (.aload_n 0, 1) := by decide +kernel
theorem dX6_readsCommand_75 : decode cX6_readsCommand 75 = .ok (.bipush 45, 2) := by decide +kernel
theorem dX6_readsCommand_77 : decode cX6_readsCommand 77 = .ok (.invokevirtual 146, 3) := by decide +kernel
theorem dX6_readsCommand_80 : decode cX6_readsCommand 80 = .ok (.istore_n 2, 1) := by decide +kernel
theorem dX6_readsCommand_81 : decode cX6_readsCommand 81 = .ok (.aload_n 0, 1) := by decide +kernel
theorem dX6_readsCommand_82 : decode cX6_readsCommand 82 = .ok (.iconst 2, 1) := by decide +kernel
theorem dX6_readsCommand_83 : decode cX6_readsCommand 83 = .ok (.invokevirtual 159, 3) := by decide +kernel
theorem dX6_readsCommand_86 : decode cX6_readsCommand 86 = .ok (.istore_n 3, 1) := by decide +kernel
theorem dX6_readsCommand_87 : decode cX6_readsCommand 87 = .ok (.aload_n 0, 1) := by decide +kernel
theorem dX6_readsCommand_88 : decode cX6_readsCommand 88 = .ok (.getfield 25, 3) := by decide +kernel
theorem dX6_readsCommand_91 : decode cX6_readsCommand 91 = .ok (.iconst 3, 1) := by decide +kernel
theorem dX6_readsCommand_92 : decode cX6_readsCommand 92 = .ok (.aload_n 0, 1) := by decide +kernel
theorem dX6_readsCommand_93 : decode cX6_readsCommand 93 = .ok (.getfield 149, 3) := by decide +kernel
theorem dX6_readsCommand_96 : decode cX6_readsCommand 96 = .ok (.imul, 1) := by decide +kernel
theorem dX6_readsCommand_97 : decode cX6_readsCommand 97 = .ok (.iconst 2, 1) := by decide +kernel
theorem dX6_readsCommand_98 : decode cX6_readsCommand 98 = .ok (.iadd, 1) := by decide +kernel
theorem dX6_readsCommand_99 : decode cX6_readsCommand 99 = .ok (.iload_n 2, 1) := by decide +kernel
theorem dX6_readsCommand_100 : decode cX6_readsCommand 100 = .ok (.ifCond .eq 20, 3) := by decide +kernel
theorem dX6_readsCommand_103 : decode cX6_readsCommand 103 = .ok (.aload_n 0, 1) := by decide +kernel
theorem dX6_readsCommand_104 : decode cX6_readsCommand 104 = .ok (.getfield 25, 3) := by decide +kernel
theorem dX6_readsCommand_107 : decode cX6_readsCommand 107 = .ok (.iconst 3, 1) := by decide +kernel
theorem dX6_readsCommand_108 : decode cX6_readsCommand 108 = .ok (.aload_n 0, 1) := by decide +kernel
theorem dX6_readsCommand_109 : decode cX6_readsCommand 109 = .ok (.getfield 149, 3) := by decide +kernel
theorem dX6_readsCommand_112 : decode cX6_readsCommand 112 = .ok (.imul, 1) := by decide +kernel
theorem dX6_readsCommand_113 : decode cX6_readsCommand 113 = .ok (.iconst 2, 1) := by decide +kernel
theorem dX6_readsCommand_114 : decode cX6_readsCommand 114 = .ok (.iadd, 1) := by decide +kernel
theorem dX6_readsCommand_115 : decode cX6_readsCommand 115 = .ok (.iaload, 1) := by decide +kernel
theorem dX6_readsCommand_116 : decode cX6_readsCommand 116 = .ok (.ineg, 1) := by decide +kernel
theorem dX6_readsCommand_117 : decode cX6_readsCommand 117 = .ok (.goto 16, 3) := by decide +kernel
theorem dX6_readsCommand_120 : decode cX6_readsCommand 120 = .ok (.aload_n 0, 1) := by decide +kernel
theorem dX6_readsCommand_121 : decode cX6_readsCommand 121 = .ok (.getfield 25, 3) := by decide +kernel
theorem dX6_readsCommand_124 : decode cX6_readsCommand 124 = .ok (.iconst 3, 1) := by decide +kernel
theorem dX6_readsCommand_125 : decode cX6_readsCommand 125 = .ok (.aload_n 0, 1) := by decide +kernel
theorem dX6_readsCommand_126 : decode cX6_readsCommand 126 = .ok (.getfield 149, 3) := by decide +kernel
theorem dX6_readsCommand_129 : decode cX6_readsCommand 129 = .ok (.imul, 1) := by decide +kernel
theorem dX6_readsCommand_130 : decode cX6_readsCommand 130 = .ok (.iconst 2, 1) := by decide +kernel
theorem dX6_readsCommand_131 : decode cX6_readsCommand 131 = .ok (.iadd, 1) := by decide +kernel
theorem dX6_readsCommand_132 : decode cX6_readsCommand 132 = .ok (.iaload, 1) := by decide +kernel
theorem dX6_readsCommand_133 : decode cX6_readsCommand 133 = .ok (.iastore, 1) := by decide +kernel
theorem dX6_readsCommand_134 : decode cX6_readsCommand 134 = .ok (.iload_n 3, 1) := by decide +kernel
theorem dX6_readsCommand_135 : decode cX6_readsCommand 135 = .ok (.ireturn, 1) := by decide +kernel
theorem dX6_reads_0 : decode cX6_reads 0 = .ok (.aload_n 0, 1) := by decide +kernel
theorem dX6_reads_1 : decode cX6_reads 1 = .ok (.iconst 0, 1) := by decide +kernel
theorem dX6_reads_2 : decode cX6_reads 2 = .ok (.putfield 140, 3) := by decide +kernel
theorem dX6_reads_5 : decode cX6_reads 5 = .ok (.aload_n 0, 1) := by decide +kernel
theorem dX6_reads_6 : decode cX6_reads 6 = .ok (.iconst 0, 1) := by decide +kernel
theorem dX6_reads_7 : decode cX6_reads 7 = .ok (.putfield 149, 3) := by decide +kernel
theorem dX6_reads_10 : decode cX6_reads 10 = .ok (.iconst 1, 1) := by decide +kernel
theorem dX6_reads_11 : decode cX6_reads 11 = .ok (.istore_n 1, 1) := by decide +kernel
theorem dX6_reads_12 : decode cX6_reads 12 = .ok (.iload_n 1, 1) := by decide +kernel
theorem dX6_reads_13 : decode cX6_reads 13 = .ok (.ifCond .eq 32, 3) := by decide +kernel
theorem dX6_reads_16 : decode cX6_reads 16 = .ok (.aload_n 0, 1) := by decide +kernel
theorem dX6_reads_17 : decode cX6_reads 17 = .ok (.invokevirtual 162, 3) := by decide +kernel
theorem dX6_reads_20 : decode cX6_reads 20 = .ok (.ifCond .ne 5, 3) := by decide +kernel
theorem dX6_reads_23 : decode cX6_reads 23 = .ok (.iconst 0, 1) := by decide +kernel
theorem dX6_reads_24 : decode cX6_reads 24 = .ok (.ireturn, 1) := by decide +kernel
theorem dX6_reads_25 : decode cX6_reads 25 = .ok (.aload_n 0, 1) := by decide +kernel
theorem dX6_reads_26 : decode cX6_reads 26 = .ok (.dup, 1) := by decide +kernel
theorem dX6_reads_27 : decode cX6_reads 27 = .ok (.getfield 149, 3) := by decide +kernel
theorem dX6_reads_30 : decode cX6_reads 30 = .ok (.iconst 1, 1) := by decide +kernel
theorem dX6_reads_31 : decode cX6_reads 31 = .ok (.iadd, 1) := by decide +kernel
theorem dX6_reads_32 : decode cX6_reads 32 = .ok (.putfield 149, 3) := by decide +kernel
theorem dX6_reads_35 : decode cX6_reads 35 = .ok (.aload_n 0, 1) := by decide +kernel
theorem dX6_reads_36 : decode cX6_reads 36 = .ok (.bipush 59, 2) := by decide +kernel
theorem dX6_reads_38 : decode cX6_reads 38 = .ok (.invokevirtual 146, 3) := by decide +kernel
theorem dX6_reads_41 : decode cX6_reads 41 = .ok (.istore_n 1, 1) := by decide +kernel
theorem dX6_reads_42 : decode cX6_reads 42 = .ok (.goto (-30), 3) := by decide +kernel
theorem dX6_reads_45 : decode cX6_reads 45 = .ok (.aload_n 0, 1) := by decide +kernel
theorem dX6_reads_46 : decode cX6_reads 46 = .ok (.getfield 140, 3) := by decide +kernel
theorem dX6_reads_49 : decode cX6_reads 49 = .ok (.aload_n 0, 1) := by decide +kernel
theorem dX6_reads_50 : decode cX6_reads 50 = .ok (.getfield 137, 3) := by decide +kernel
theorem dX6_reads_53 : decode cX6_reads 53 = .ok (.if_icmp .ne 7, 3) := by decide +kernel
theorem dX6_reads_56 : decode cX6_reads 56 = .ok (.iconst 1, 1) := by decide +kernel
theorem dX6_reads_57 : decode cX6_reads 57 = .ok (.goto 4, 3) := by decide +kernel
theorem dX6_reads_60 : decode cX6_reads 60 = .ok (.iconst 0, 1) := by decide +kernel
theorem dX6_reads_61 : decode cX6_reads 61 = .ok (.ireturn, 1) := by decide +kernel
theorem dX6_does_0 : decode cX6_does 0 = .ok (.aload_n 0, 1) := by decide +kernel
theorem dX6_does_1 : decode cX6_does 1 = .ok (.getfield 25, 3) := by decide +kernel
theorem dX6_does_4 : decode cX6_does 4 = .ok (.iconst 3, 1) := by decide +kernel
theorem dX6_does_5 : decode cX6_does 5 = .ok (.iload_n 1, 1) := by decide +kernel
theorem dX6_does_6 : decode cX6_does 6 = .ok (.imul, 1) := by decide +kernel
theorem dX6_does_7 : decode cX6_does 7 = .ok (.iconst 1, 1) := by decide +kernel
theorem dX6_does_8 : decode cX6_does 8 = .ok (.iadd, 1) := by decide +kernel
theorem dX6_does_9 : decode cX6_does 9 = .ok (.iaload, 1) := by decide +kernel
theorem dX6_does_10 : decode cX6_does 10 = .ok (.istore_n 2, 1) := by decide +kernel
theorem dX6_does_11 : decode cX6_does 11 = .ok (.aload_n 0, 1) := by decide +kernel
theorem dX6_does_12 : decode cX6_does 12 = .ok (.getfield 25, 3) := by decide +kernel
theorem dX6_does_15 : decode cX6_does 15 = .ok (.iconst 3, 1) := by decide +kernel
theorem dX6_does_16 : decode cX6_does 16 = .ok (.iload_n 1, 1) := by decide +kernel
theorem dX6_does_17 : decode cX6_does 17 = .ok (.imul, 1) := by decide +kernel
theorem dX6_does_18 : decode cX6_does 18 = .ok (.iconst 2, 1) := by decide +kernel
theorem dX6_does_19 : decode cX6_does 19 = .ok (.iadd, 1) := by decide +kernel
theorem dX6_does_20 : decode cX6_does 20 = .ok (.iaload, 1) := by decide +kernel
theorem dX6_does_21 : decode cX6_does 21 = .ok (.istore_n 3, 1) := by decide +kernel
theorem dX6_does_22 : decode cX6_does 22 = .ok (.aload_n 0, 1) := by decide +kernel
theorem dX6_does_23 : decode cX6_does 23 = .ok (.getfield 25, 3) := by decide +kernel
theorem dX6_does_26 : decode cX6_does 26 = .ok (.iconst 3, 1) := by decide +kernel
theorem dX6_does_27 : decode cX6_does 27 = .ok (.iload_n 1, 1) := by decide +kernel
theorem dX6_does_28 : decode cX6_does 28 = .ok (.imul, 1) := by decide +kernel
theorem dX6_does_29 : decode cX6_does 29 = .ok (.iaload, 1) := by decide +kernel
theorem dX6_does_30 : decode cX6_does 30 = .ok (.tableswitch 56 0 3 #[30, 37, 43, 50], 30) := by decide +kernel
theorem dX6_does_60 : decode cX6_does 60 = .ok (.aload_n 0, 1) := by decide +kernel
theorem dX6_does_61 : decode cX6_does 61 = .ok (.iload_n 2, 1) := by decide +kernel
theorem dX6_does_62 : decode cX6_does 62 = .ok (.iload_n 3, 1) := by decide +kernel
theorem dX6_does_63 : decode cX6_does 63 = .ok (.invokevirtual 71, 3) := by decide +kernel
theorem dX6_does_66 : decode cX6_does 66 = .ok (.ireturn, 1) := by decide +kernel
theorem dX6_does_67 : decode cX6_does 67 = .ok (.aload_n 0, 1) := by decide +kernel
theorem dX6_does_68 : decode cX6_does 68 = .ok (.iload_n 2, 1) := by decide +kernel
theorem dX6_does_69 : decode cX6_does 69 = .ok (.invokevirtual 113, 3) := by decide +kernel
theorem dX6_does_72 : decode cX6_does 72 = .ok (.ireturn, 1) := by decide +kernel
theorem dX6_does_73 : decode cX6_does 73 = .ok (.aload_n 0, 1) := by decide +kernel
theorem dX6_does_74 : decode cX6_does 74 = .ok (.iload_n 2, 1) := by decide +kernel
theorem dX6_does_75 : decode cX6_does 75 = .ok (.iload_n 3, 1) := by decide +kernel
theorem dX6_does_76 : decode cX6_does 76 = .ok (.invokevirtual 125, 3) := by decide +kernel
theorem dX6_does_79 : decode cX6_does 79 = .ok (.ireturn, 1) := by decide +kernel
theorem dX6_does_80 : decode cX6_does 80 = .ok (.aload_n 0, 1) := by decide +kernel
theorem dX6_does_81 : decode cX6_does 81 = .ok (.iload_n 2, 1) := by decide +kernel
theorem dX6_does_82 : decode cX6_does 82 = .ok (.invokevirtual 110, 3) := by decide +kernel
theorem dX6_does_85 : decode cX6_does 85 = .ok (.ireturn, 1) := by decide +kernel
theorem dX6_does_86 : decode cX6_does 86 = .ok (.aload_n 0, 1) := by decide +kernel
theorem dX6_does_87 : decode cX6_does 87 = .ok (.iload_n 2, 1) := by decide +kernel
theorem dX6_does_88 : decode cX6_does 88 = .ok (.invokevirtual 90, 3) := by decide +kernel
theorem dX6_does_91 : decode cX6_does 91 = .ok (.ireturn, 1) := by decide +kernel
theorem dX6_run_0 : decode cX6_run 0 = .ok (.aload_n 0, 1) := by decide +kernel
theorem dX6_run_1 : decode cX6_run 1 = .ok (.invokevirtual 165, 3) := by decide +kernel
theorem dX6_run_4 : decode cX6_run 4 = .ok (.ifCond .ne 11, 3) := by decide +kernel
theorem dX6_run_7 : decode cX6_run 7 = .ok (.bipush (-100), 2) := by decide +kernel
theorem dX6_run_9 : decode cX6_run 9 = .ok (.aload_n 0, 1) := by decide +kernel
theorem dX6_run_10 : decode cX6_run 10 = .ok (.getfield 140, 3) := by decide +kernel
theorem dX6_run_13 : decode cX6_run 13 = .ok (.isub, 1) := by decide +kernel
theorem dX6_run_14 : decode cX6_run 14 = .ok (.ireturn, 1) := by decide +kernel
theorem dX6_run_15 : decode cX6_run 15 = .ok (.aload_n 0, 1) := by decide +kernel
theorem dX6_run_16 : decode cX6_run 16 = .ok (.getfield 7, 3) := by decide +kernel
theorem dX6_run_19 : decode cX6_run 19 = .ok (.aload_n 0, 1) := by decide +kernel
theorem dX6_run_20 : decode cX6_run 20 = .ok (.getfield 13, 3) := by decide +kernel
theorem dX6_run_23 : decode cX6_run 23 = .ok (.invokestatic 67, 3) := by decide +kernel
theorem dX6_run_26 : decode cX6_run 26 = .ok (.iconst 0, 1) := by decide +kernel
theorem dX6_run_27 : decode cX6_run 27 = .ok (.istore_n 1, 1) := by decide +kernel
theorem dX6_run_28 : decode cX6_run 28 = .ok (.iload_n 1, 1) := by decide +kernel
theorem dX6_run_29 : decode cX6_run 29 = .ok (.aload_n 0, 1) := by decide +kernel
theorem dX6_run_30 : decode cX6_run 30 = .ok (.getfield 149, 3) := by decide +kernel
theorem dX6_run_33 : decode cX6_run 33 = .ok (.if_icmp .ge 46, 3) := by decide +kernel
theorem dX6_run_36 : decode cX6_run 36 = .ok (.aload_n 0, 1) := by decide +kernel
theorem dX6_run_37 : decode cX6_run 37 = .ok (.iload_n 1, 1) := by decide +kernel
theorem dX6_run_38 : decode cX6_run 38 = .ok (.invokevirtual 168, 3) := by decide +kernel
theorem dX6_run_41 : decode cX6_run 41 = .ok (.istore_n 2, 1) := by decide +kernel
theorem dX6_run_42 : decode cX6_run 42 = .ok (.iload_n 2, 1) := by decide +kernel
theorem dX6_run_43 : decode cX6_run 43 = .ok (.sipush (-20001), 3) := by decide +kernel
theorem dX6_run_46 : decode cX6_run 46 = .ok (.if_icmp .eq 10, 3) := by decide +kernel
theorem dX6_run_49 : decode cX6_run 49 = .ok (.iload_n 2, 1) := by decide +kernel
theorem dX6_run_50 : decode cX6_run 50 = .ok (.sipush (-20002), 3) := by decide +kernel
theorem dX6_run_53 : decode cX6_run 53 = .ok (.if_icmp .ne 20, 3) := by decide +kernel
theorem dX6_run_56 : decode cX6_run 56 = .ok (.aload_n 0, 1) := by decide +kernel
theorem dX6_run_57 : decode cX6_run 57 = .ok (.getfield 13, 3) := by decide +kernel
theorem dX6_run_60 : decode cX6_run 60 = .ok (.aload_n 0, 1) := by decide +kernel
theorem dX6_run_61 : decode cX6_run 61 = .ok (.getfield 7, 3) := by decide +kernel
theorem dX6_run_64 : decode cX6_run 64 = .ok (.invokestatic 67, 3) := by decide +kernel
theorem dX6_run_67 : decode cX6_run 67 = .ok (.sipush (-1000), 3) := by decide +kernel
theorem dX6_run_70 : decode cX6_run 70 = .ok (.iload_n 1, 1) := by decide +kernel
theorem dX6_run_71 : decode cX6_run 71 = .ok (.isub, 1) := by decide +kernel
theorem dX6_run_72 : decode cX6_run 72 = .ok (.ireturn, 1) := by decide +kernel
theorem dX6_run_73 : decode cX6_run 73 = .ok (.iinc 1 1, 3) := by decide +kernel
theorem dX6_run_76 : decode cX6_run 76 = .ok (.goto (-48), 3) := by decide +kernel
theorem dX6_run_79 : decode cX6_run 79 = .ok (.aload_n 0, 1) := by decide +kernel
theorem dX6_run_80 : decode cX6_run 80 = .ok (.aload_n 0, 1) := by decide +kernel
theorem dX6_run_81 : decode cX6_run 81 = .ok (.getfield 13, 3) := by decide +kernel
theorem dX6_run_84 : decode cX6_run 84 = .ok (.invokevirtual 40, 3) := by decide +kernel
theorem dX6_run_87 : decode cX6_run 87 = .ok (.aload_n 0, 1) := by decide +kernel
theorem dX6_run_88 : decode cX6_run 88 = .ok (.iconst 0, 1) := by decide +kernel
theorem dX6_run_89 : decode cX6_run 89 = .ok (.putfield 137, 3) := by decide +kernel
theorem dX6_run_92 : decode cX6_run 92 = .ok (.aload_n 0, 1) := by decide +kernel
theorem dX6_run_93 : decode cX6_run 93 = .ok (.getfield 149, 3) := by decide +kernel
theorem dX6_run_96 : decode cX6_run 96 = .ok (.ireturn, 1) := by decide +kernel
theorem dX6_undo_0 : decode cX6_undo 0 = .ok (.aload_n 0, 1) := by decide +kernel
theorem dX6_undo_1 : decode cX6_undo 1 = .ok (.getfield 28, 3) := by decide +kernel
theorem dX6_undo_4 : decode cX6_undo 4 = .ok (.ifCond .ne 7, 3) := by decide +kernel
theorem dX6_undo_7 : decode cX6_undo 7 = .ok (.sipush (-20009), 3) := by decide +kernel
theorem dX6_undo_10 : decode cX6_undo 10 = .ok (.ireturn, 1) := by decide +kernel
theorem dX6_undo_11 : decode cX6_undo 11 = .ok (.aload_n 0, 1) := by decide +kernel
theorem dX6_undo_12 : decode cX6_undo 12 = .ok (.dup, 1) := by decide +kernel
theorem dX6_undo_13 : decode cX6_undo 13 = .ok (.getfield 28, 3) := by decide +kernel
theorem dX6_undo_16 : decode cX6_undo 16 = .ok (.iconst 1, 1) := by decide +kernel
theorem dX6_undo_17 : decode cX6_undo 17 = .ok (.isub, 1) := by decide +kernel
theorem dX6_undo_18 : decode cX6_undo 18 = .ok (.putfield 28, 3) := by decide +kernel
theorem dX6_undo_21 : decode cX6_undo 21 = .ok (.iconst 0, 1) := by decide +kernel
theorem dX6_undo_22 : decode cX6_undo 22 = .ok (.istore_n 1, 1) := by decide +kernel
theorem dX6_undo_23 : decode cX6_undo 23 = .ok (.iload_n 1, 1) := by decide +kernel
theorem dX6_undo_24 : decode cX6_undo 24 = .ok (.sipush 1080, 3) := by decide +kernel
theorem dX6_undo_27 : decode cX6_undo 27 = .ok (.if_icmp .ge 30, 3) := by decide +kernel
theorem dX6_undo_30 : decode cX6_undo 30 = .ok (.aload_n 0, 1) := by decide +kernel
theorem dX6_undo_31 : decode cX6_undo 31 = .ok (.getfield 7, 3) := by decide +kernel
theorem dX6_undo_34 : decode cX6_undo 34 = .ok (.iload_n 1, 1) := by decide +kernel
theorem dX6_undo_35 : decode cX6_undo 35 = .ok (.aload_n 0, 1) := by decide +kernel
theorem dX6_undo_36 : decode cX6_undo 36 = .ok (.getfield 16, 3) := by decide +kernel
theorem dX6_undo_39 : decode cX6_undo 39 = .ok (.sipush 1080, 3) := by decide +kernel
theorem dX6_undo_42 : decode cX6_undo 42 = .ok (.aload_n 0, 1) := by decide +kernel
theorem dX6_undo_43 : decode cX6_undo 43 = .ok (.getfield 28, 3) := by decide +kernel
theorem dX6_undo_46 : decode cX6_undo 46 = .ok (.imul, 1) := by decide +kernel
theorem dX6_undo_47 : decode cX6_undo 47 = .ok (.iload_n 1, 1) := by decide +kernel
theorem dX6_undo_48 : decode cX6_undo 48 = .ok (.iadd, 1) := by decide +kernel
theorem dX6_undo_49 : decode cX6_undo 49 = .ok (.iaload, 1) := by decide +kernel
theorem dX6_undo_50 : decode cX6_undo 50 = .ok (.iastore, 1) := by decide +kernel
theorem dX6_undo_51 : decode cX6_undo 51 = .ok (.iinc 1 1, 3) := by decide +kernel
theorem dX6_undo_54 : decode cX6_undo 54 = .ok (.goto (-31), 3) := by decide +kernel
theorem dX6_undo_57 : decode cX6_undo 57 = .ok (.aload_n 0, 1) := by decide +kernel
theorem dX6_undo_58 : decode cX6_undo 58 = .ok (.getfield 28, 3) := by decide +kernel
theorem dX6_undo_61 : decode cX6_undo 61 = .ok (.ireturn, 1) := by decide +kernel
theorem dX6_fingerprint_0 : decode cX6_fingerprint 0 = .ok (.ldc2_w 171, 3) := by decide +kernel
theorem dX6_fingerprint_3 : decode cX6_fingerprint 3 = .ok (.lstore_n 1, 1) := by decide +kernel
theorem dX6_fingerprint_4 : decode cX6_fingerprint 4 = .ok (.iconst 0, 1) := by decide +kernel
theorem dX6_fingerprint_5 : decode cX6_fingerprint 5 = .ok (.istore_n 3, 1) := by decide +kernel
theorem dX6_fingerprint_6 : decode cX6_fingerprint 6 = .ok (.iload_n 3, 1) := by decide +kernel
theorem dX6_fingerprint_7 : decode cX6_fingerprint 7 = .ok (.iconst 5, 1) := by decide +kernel
theorem dX6_fingerprint_8 : decode cX6_fingerprint 8 = .ok (.if_icmp .ge 77, 3) := by decide +kernel
theorem dX6_fingerprint_11 : decode cX6_fingerprint 11 = .ok (.ldc2_w 173, 3) := by decide +kernel
theorem dX6_fingerprint_14 : decode cX6_fingerprint 14 = .ok (.lload_n 1, 1) := by decide +kernel
theorem dX6_fingerprint_15 : decode cX6_fingerprint 15 = .ok (.lmul, 1) := by decide +kernel
theorem dX6_fingerprint_16 : decode cX6_fingerprint 16 = .ok (.iload_n 3, 1) := by decide +kernel
theorem dX6_fingerprint_17 : decode cX6_fingerprint 17 = .ok (.ifCond .ne 12, 3) := by decide +kernel
theorem dX6_fingerprint_20 : decode cX6_fingerprint 20 = .ok (.aload_n 0, 1) := by decide +kernel
theorem dX6_fingerprint_21 : decode cX6_fingerprint 21 = .ok (.getfield 7, 3) := by decide +kernel
theorem dX6_fingerprint_24 : decode cX6_fingerprint 24 = .ok (.iconst 1, 1) := by decide +kernel
theorem dX6_fingerprint_25 : decode cX6_fingerprint 25 = .ok (.iaload, 1) := by decide +kernel
theorem dX6_fingerprint_26 : decode cX6_fingerprint 26 = .ok (.goto 50, 3) := by decide +kernel
theorem dX6_fingerprint_29 : decode cX6_fingerprint 29 = .ok (.iload_n 3, 1) := by decide +kernel
theorem dX6_fingerprint_30 : decode cX6_fingerprint 30 = .ok (.iconst 1, 1) := by decide +kernel
theorem dX6_fingerprint_31 : decode cX6_fingerprint 31 = .ok (.if_icmp .ne 12, 3) := by decide +kernel
theorem dX6_fingerprint_34 : decode cX6_fingerprint 34 = .ok (.aload_n 0, 1) := by decide +kernel
theorem dX6_fingerprint_35 : decode cX6_fingerprint 35 = .ok (.getfield 7, 3) := by decide +kernel
theorem dX6_fingerprint_38 : decode cX6_fingerprint 38 = .ok (.iconst 2, 1) := by decide +kernel
theorem dX6_fingerprint_39 : decode cX6_fingerprint 39 = .ok (.iaload, 1) := by decide +kernel
theorem dX6_fingerprint_40 : decode cX6_fingerprint 40 = .ok (.goto 36, 3) := by decide +kernel
theorem dX6_fingerprint_43 : decode cX6_fingerprint 43 = .ok (.iload_n 3, 1) := by decide +kernel
theorem dX6_fingerprint_44 : decode cX6_fingerprint 44 = .ok (.iconst 2, 1) := by decide +kernel
theorem dX6_fingerprint_45 : decode cX6_fingerprint 45 = .ok (.if_icmp .ne 12, 3) := by decide +kernel
theorem dX6_fingerprint_48 : decode cX6_fingerprint 48 = .ok (.aload_n 0, 1) := by decide +kernel
theorem dX6_fingerprint_49 : decode cX6_fingerprint 49 = .ok (.getfield 7, 3) := by decide +kernel
theorem dX6_fingerprint_52 : decode cX6_fingerprint 52 = .ok (.iconst 3, 1) := by decide +kernel
theorem dX6_fingerprint_53 : decode cX6_fingerprint 53 = .ok (.iaload, 1) := by decide +kernel
theorem dX6_fingerprint_54 : decode cX6_fingerprint 54 = .ok (.goto 22, 3) := by decide +kernel
theorem dX6_fingerprint_57 : decode cX6_fingerprint 57 = .ok (.iload_n 3, 1) := by decide +kernel
theorem dX6_fingerprint_58 : decode cX6_fingerprint 58 = .ok (.iconst 3, 1) := by decide +kernel
theorem dX6_fingerprint_59 : decode cX6_fingerprint 59 = .ok (.if_icmp .ne 10, 3) := by decide +kernel
theorem dX6_fingerprint_62 : decode cX6_fingerprint 62 = .ok (.aload_n 0, 1) := by decide +kernel
theorem dX6_fingerprint_63 : decode cX6_fingerprint 63 = .ok (.invokevirtual 103, 3) := by decide +kernel
theorem dX6_fingerprint_66 : decode cX6_fingerprint 66 = .ok (.goto 10, 3) := by decide +kernel
theorem dX6_fingerprint_69 : decode cX6_fingerprint 69 = .ok (.aload_n 0, 1) := by decide +kernel
theorem dX6_fingerprint_70 : decode cX6_fingerprint 70 = .ok (.getfield 7, 3) := by decide +kernel
theorem dX6_fingerprint_73 : decode cX6_fingerprint 73 = .ok (.bipush 8, 2) := by decide +kernel
theorem dX6_fingerprint_75 : decode cX6_fingerprint 75 = .ok (.iaload, 1) := by decide +kernel
theorem dX6_fingerprint_76 : decode cX6_fingerprint 76 = .ok (.i2l, 1) := by decide +kernel
theorem dX6_fingerprint_77 : decode cX6_fingerprint 77 = .ok (.ladd, 1) := by decide +kernel
theorem dX6_fingerprint_78 : decode cX6_fingerprint 78 = .ok (.lstore_n 1, 1) := by decide +kernel
theorem dX6_fingerprint_79 : decode cX6_fingerprint 79 = .ok (.iinc 3 1, 3) := by decide +kernel
theorem dX6_fingerprint_82 : decode cX6_fingerprint 82 = .ok (.goto (-76), 3) := by decide +kernel
theorem dX6_fingerprint_85 : decode cX6_fingerprint 85 = .ok (.ldc2_w 173, 3) := by decide +kernel
theorem dX6_fingerprint_88 : decode cX6_fingerprint 88 = .ok (.lload_n 1, 1) := by decide +kernel
theorem dX6_fingerprint_89 : decode cX6_fingerprint 89 = .ok (.lmul, 1) := by decide +kernel
theorem dX6_fingerprint_90 : decode cX6_fingerprint 90 = .ok (.aload_n 0, 1) := by decide +kernel
theorem dX6_fingerprint_91 : decode cX6_fingerprint 91 = .ok (.getfield 7, 3) := by decide +kernel
theorem dX6_fingerprint_94 : decode cX6_fingerprint 94 = .ok (.iconst 0, 1) := by decide +kernel
theorem dX6_fingerprint_95 : decode cX6_fingerprint 95 = .ok (.iaload, 1) := by decide +kernel
theorem dX6_fingerprint_96 : decode cX6_fingerprint 96 = .ok (.i2l, 1) := by decide +kernel
theorem dX6_fingerprint_97 : decode cX6_fingerprint 97 = .ok (.ladd, 1) := by decide +kernel
theorem dX6_fingerprint_98 : decode cX6_fingerprint 98 = .ok (.lstore_n 1, 1) := by decide +kernel
theorem dX6_fingerprint_99 : decode cX6_fingerprint 99 = .ok (.iconst 0, 1) := by decide +kernel
theorem dX6_fingerprint_100 : decode cX6_fingerprint 100 = .ok (.istore_n 3, 1) := by decide +kernel
theorem dX6_fingerprint_101 : decode cX6_fingerprint 101 = .ok (.iload_n 3, 1) := by decide +kernel
theorem dX6_fingerprint_102 : decode cX6_fingerprint 102 = .ok (.aload_n 0, 1) := by decide +kernel
theorem dX6_fingerprint_103 : decode cX6_fingerprint 103 = .ok (.getfield 7, 3) := by decide +kernel
theorem dX6_fingerprint_106 : decode cX6_fingerprint 106 = .ok (.iconst 0, 1) := by decide +kernel
theorem dX6_fingerprint_107 : decode cX6_fingerprint 107 = .ok (.iaload, 1) := by decide +kernel
theorem dX6_fingerprint_108 : decode cX6_fingerprint 108 = .ok (.if_icmp .ge 40, 3) := by decide +kernel
theorem dX6_fingerprint_111 : decode cX6_fingerprint 111 = .ok (.iconst 0, 1) := by decide +kernel
theorem dX6_fingerprint_112 : decode cX6_fingerprint 112 = .ok (.istore 4, 2) := by decide +kernel
theorem dX6_fingerprint_114 : decode cX6_fingerprint 114 = .ok (.iload 4, 2) := by decide +kernel
theorem dX6_fingerprint_116 : decode cX6_fingerprint 116 = .ok (.bipush 16, 2) := by decide +kernel
theorem dX6_fingerprint_118 : decode cX6_fingerprint 118 = .ok (.if_icmp .ge 24, 3) := by decide +kernel
theorem dX6_fingerprint_121 : decode cX6_fingerprint 121 = .ok (.ldc2_w 173, 3) := by decide +kernel
theorem dX6_fingerprint_124 : decode cX6_fingerprint 124 = .ok (.lload_n 1, 1) := by decide +kernel
theorem dX6_fingerprint_125 : decode cX6_fingerprint 125 = .ok (.lmul, 1) := by decide +kernel
theorem dX6_fingerprint_126 : decode cX6_fingerprint 126 = .ok (.aload_n 0, 1) := by decide +kernel
theorem dX6_fingerprint_127 : decode cX6_fingerprint 127 = .ok (.iload_n 3, 1) := by decide +kernel
theorem dX6_fingerprint_128 : decode cX6_fingerprint 128 = .ok (.iload 4, 2) := by decide +kernel
theorem dX6_fingerprint_130 : decode cX6_fingerprint 130 = .ok (.invokevirtual 87, 3) := by decide +kernel
theorem dX6_fingerprint_133 : decode cX6_fingerprint 133 = .ok (.i2l, 1) := by decide +kernel
theorem dX6_fingerprint_134 : decode cX6_fingerprint 134 = .ok (.ladd, 1) := by decide +kernel
theorem dX6_fingerprint_135 : decode cX6_fingerprint 135 = .ok (.lstore_n 1, 1) := by decide +kernel
theorem dX6_fingerprint_136 : decode cX6_fingerprint 136 = .ok (.iinc 4 1, 3) := by decide +kernel
theorem dX6_fingerprint_139 : decode cX6_fingerprint 139 = .ok (.goto (-25), 3) := by decide +kernel
theorem dX6_fingerprint_142 : decode cX6_fingerprint 142 = .ok (.iinc 3 1, 3) := by decide +kernel
theorem dX6_fingerprint_145 : decode cX6_fingerprint 145 = .ok (.goto (-44), 3) := by decide +kernel
theorem dX6_fingerprint_148 : decode cX6_fingerprint 148 = .ok (.ldc2_w 173, 3) := by decide +kernel
theorem dX6_fingerprint_151 : decode cX6_fingerprint 151 = .ok (.lload_n 1, 1) := by decide +kernel
theorem dX6_fingerprint_152 : decode cX6_fingerprint 152 = .ok (.lmul, 1) := by decide +kernel
theorem dX6_fingerprint_153 : decode cX6_fingerprint 153 = .ok (.aload_n 0, 1) := by decide +kernel
theorem dX6_fingerprint_154 : decode cX6_fingerprint 154 = .ok (.getfield 7, 3) := by decide +kernel
theorem dX6_fingerprint_157 : decode cX6_fingerprint 157 = .ok (.bipush 9, 2) := by decide +kernel
theorem dX6_fingerprint_159 : decode cX6_fingerprint 159 = .ok (.iaload, 1) := by decide +kernel
theorem dX6_fingerprint_160 : decode cX6_fingerprint 160 = .ok (.i2l, 1) := by decide +kernel
theorem dX6_fingerprint_161 : decode cX6_fingerprint 161 = .ok (.ladd, 1) := by decide +kernel
theorem dX6_fingerprint_162 : decode cX6_fingerprint 162 = .ok (.lstore_n 1, 1) := by decide +kernel
theorem dX6_fingerprint_163 : decode cX6_fingerprint 163 = .ok (.iconst 0, 1) := by decide +kernel
theorem dX6_fingerprint_164 : decode cX6_fingerprint 164 = .ok (.istore_n 3, 1) := by decide +kernel
theorem dX6_fingerprint_165 : decode cX6_fingerprint 165 = .ok (.iload_n 3, 1) := by decide +kernel
theorem dX6_fingerprint_166 : decode cX6_fingerprint 166 = .ok (.bipush 30, 2) := by decide +kernel
theorem dX6_fingerprint_168 : decode cX6_fingerprint 168 = .ok (.if_icmp .ge 50, 3) := by decide +kernel
theorem dX6_fingerprint_171 : decode cX6_fingerprint 171 = .ok (.iload_n 3, 1) := by decide +kernel
theorem dX6_fingerprint_172 : decode cX6_fingerprint 172 = .ok (.aload_n 0, 1) := by decide +kernel
theorem dX6_fingerprint_173 : decode cX6_fingerprint 173 = .ok (.getfield 7, 3) := by decide +kernel
theorem dX6_fingerprint_176 : decode cX6_fingerprint 176 = .ok (.bipush 9, 2) := by decide +kernel
theorem dX6_fingerprint_178 : decode cX6_fingerprint 178 = .ok (.iaload, 1) := by decide +kernel
theorem dX6_fingerprint_179 : decode cX6_fingerprint 179 = .ok (.if_icmp .ge 39, 3) := by decide +kernel
theorem dX6_fingerprint_182 : decode cX6_fingerprint 182 = .ok (.iconst 0, 1) := by decide +kernel
theorem dX6_fingerprint_183 : decode cX6_fingerprint 183 = .ok (.istore 4, 2) := by decide +kernel
theorem dX6_fingerprint_185 : decode cX6_fingerprint 185 = .ok (.iload 4, 2) := by decide +kernel
theorem dX6_fingerprint_187 : decode cX6_fingerprint 187 = .ok (.iconst 3, 1) := by decide +kernel
theorem dX6_fingerprint_188 : decode cX6_fingerprint 188 = .ok (.if_icmp .ge 24, 3) := by decide +kernel
theorem dX6_fingerprint_191 : decode cX6_fingerprint 191 = .ok (.ldc2_w 173, 3) := by decide +kernel
theorem dX6_fingerprint_194 : decode cX6_fingerprint 194 = .ok (.lload_n 1, 1) := by decide +kernel
theorem dX6_fingerprint_195 : decode cX6_fingerprint 195 = .ok (.lmul, 1) := by decide +kernel
theorem dX6_fingerprint_196 : decode cX6_fingerprint 196 = .ok (.aload_n 0, 1) := by decide +kernel
theorem dX6_fingerprint_197 : decode cX6_fingerprint 197 = .ok (.iload_n 3, 1) := by decide +kernel
theorem dX6_fingerprint_198 : decode cX6_fingerprint 198 = .ok (.iload 4, 2) := by decide +kernel
theorem dX6_fingerprint_200 : decode cX6_fingerprint 200 = .ok (.invokevirtual 131, 3) := by decide +kernel
theorem dX6_fingerprint_203 : decode cX6_fingerprint 203 = .ok (.i2l, 1) := by decide +kernel
theorem dX6_fingerprint_204 : decode cX6_fingerprint 204 = .ok (.ladd, 1) := by decide +kernel
theorem dX6_fingerprint_205 : decode cX6_fingerprint 205 = .ok (.lstore_n 1, 1) := by decide +kernel
theorem dX6_fingerprint_206 : decode cX6_fingerprint 206 = .ok (.iinc 4 1, 3) := by decide +kernel
theorem dX6_fingerprint_209 : decode cX6_fingerprint 209 = .ok (.goto (-24), 3) := by decide +kernel
theorem dX6_fingerprint_212 : decode cX6_fingerprint 212 = .ok (.iinc 3 1, 3) := by decide +kernel
theorem dX6_fingerprint_215 : decode cX6_fingerprint 215 = .ok (.goto (-50), 3) := by decide +kernel
theorem dX6_fingerprint_218 : decode cX6_fingerprint 218 = .ok (.lload_n 1, 1) := by decide +kernel
theorem dX6_fingerprint_219 : decode cX6_fingerprint 219 = .ok (.lreturn, 1) := by decide +kernel
end
section
theorem dL_law_0 : decode cL_law 0 = .ok (.new 7, 3) := by decide +kernel
theorem dL_law_3 : decode cL_law 3 = .ok (.dup, 1) := by decide +kernel
theorem dL_law_4 : decode cL_law 4 = .ok (.invokespecial 9, 3) := by decide +kernel
theorem dL_law_7 : decode cL_law 7 = .ok (.astore_n 1, 1) := by decide +kernel
theorem dL_law_8 : decode cL_law 8 = .ok (.new 10, 3) := by decide +kernel
theorem dL_law_11 : decode cL_law 11 = .ok (.dup, 1) := by decide +kernel
theorem dL_law_12 : decode cL_law 12 = .ok (.invokespecial 12, 3) := by decide +kernel
theorem dL_law_15 : decode cL_law 15 = .ok (.astore_n 2, 1) := by decide +kernel
theorem dL_law_16 : decode cL_law 16 = .ok (.iconst 0, 1) := by decide +kernel
theorem dL_law_17 : decode cL_law 17 = .ok (.istore_n 3, 1) := by decide +kernel
theorem dL_law_18 : decode cL_law 18 = .ok (.iload_n 3, 1) := by decide +kernel
theorem dL_law_19 : decode cL_law 19 = .ok (.aload_n 0, 1) := by decide +kernel
theorem dL_law_20 : decode cL_law 20 = .ok (.arraylength, 1) := by decide +kernel
theorem dL_law_21 : decode cL_law 21 = .ok (.iconst 4, 1) := by decide +kernel
theorem dL_law_22 : decode cL_law 22 = .ok (.isub, 1) := by decide +kernel
theorem dL_law_23 : decode cL_law 23 = .ok (.if_icmp .gt 821, 3) := by decide +kernel
theorem dL_law_26 : decode cL_law 26 = .ok (.aload_n 0, 1) := by decide +kernel
theorem dL_law_27 : decode cL_law 27 = .ok (.iload_n 3, 1) := by decide +kernel
theorem dL_law_28 : decode cL_law 28 = .ok (.iaload, 1) := by decide +kernel
theorem dL_law_29 : decode cL_law 29 = .ok (.bipush 31, 2) := by decide +kernel
theorem dL_law_31 : decode cL_law 31 = .ok (.iand, 1) := by decide +kernel
theorem dL_law_32 : decode cL_law 32 = .ok (.tableswitch 806 0 26 #[124, 157, 200, 233, 266, 299, 312, 335, 378, 401, 424, 447, 460, 493, 516, 539, 562, 575, 608, 651, 664, 697, 730, 753, 766, 779, 792], 124) := by decide +kernel
theorem dL_law_156 : decode cL_law 156 = .ok (.aload_n 1, 1) := by decide +kernel
theorem dL_law_157 : decode cL_law 157 = .ok (.aload_n 0, 1) := by decide +kernel
theorem dL_law_158 : decode cL_law 158 = .ok (.iload_n 3, 1) := by decide +kernel
theorem dL_law_159 : decode cL_law 159 = .ok (.iconst 1, 1) := by decide +kernel
theorem dL_law_160 : decode cL_law 160 = .ok (.iadd, 1) := by decide +kernel
theorem dL_law_161 : decode cL_law 161 = .ok (.iaload, 1) := by decide +kernel
theorem dL_law_162 : decode cL_law 162 = .ok (.aload_n 0, 1) := by decide +kernel
theorem dL_law_163 : decode cL_law 163 = .ok (.iload_n 3, 1) := by decide +kernel
theorem dL_law_164 : decode cL_law 164 = .ok (.iconst 2, 1) := by decide +kernel
theorem dL_law_165 : decode cL_law 165 = .ok (.iadd, 1) := by decide +kernel
theorem dL_law_166 : decode cL_law 166 = .ok (.iaload, 1) := by decide +kernel
theorem dL_law_167 : decode cL_law 167 = .ok (.invokevirtual 13, 3) := by decide +kernel
theorem dL_law_170 : decode cL_law 170 = .ok (.aload_n 2, 1) := by decide +kernel
theorem dL_law_171 : decode cL_law 171 = .ok (.aload_n 0, 1) := by decide +kernel
theorem dL_law_172 : decode cL_law 172 = .ok (.iload_n 3, 1) := by decide +kernel
theorem dL_law_173 : decode cL_law 173 = .ok (.iconst 1, 1) := by decide +kernel
theorem dL_law_174 : decode cL_law 174 = .ok (.iadd, 1) := by decide +kernel
theorem dL_law_175 : decode cL_law 175 = .ok (.iaload, 1) := by decide +kernel
theorem dL_law_176 : decode cL_law 176 = .ok (.aload_n 0, 1) := by decide +kernel
theorem dL_law_177 : decode cL_law 177 = .ok (.iload_n 3, 1) := by decide +kernel
theorem dL_law_178 : decode cL_law 178 = .ok (.iconst 2, 1) := by decide +kernel
theorem dL_law_179 : decode cL_law 179 = .ok (.iadd, 1) := by decide +kernel
theorem dL_law_180 : decode cL_law 180 = .ok (.iaload, 1) := by decide +kernel
theorem dL_law_181 : decode cL_law 181 = .ok (.invokevirtual 17, 3) := by decide +kernel
theorem dL_law_184 : decode cL_law 184 = .ok (.if_icmp .eq 654, 3) := by decide +kernel
theorem dL_law_187 : decode cL_law 187 = .ok (.iconst 0, 1) := by decide +kernel
theorem dL_law_188 : decode cL_law 188 = .ok (.ireturn, 1) := by decide +kernel
theorem dL_law_189 : decode cL_law 189 = .ok (.aload_n 1, 1) := by decide +kernel
theorem dL_law_190 : decode cL_law 190 = .ok (.aload_n 0, 1) := by decide +kernel
theorem dL_law_191 : decode cL_law 191 = .ok (.iload_n 3, 1) := by decide +kernel
theorem dL_law_192 : decode cL_law 192 = .ok (.iconst 1, 1) := by decide +kernel
theorem dL_law_193 : decode cL_law 193 = .ok (.iadd, 1) := by decide +kernel
theorem dL_law_194 : decode cL_law 194 = .ok (.iaload, 1) := by decide +kernel
theorem dL_law_195 : decode cL_law 195 = .ok (.aload_n 0, 1) := by decide +kernel
theorem dL_law_196 : decode cL_law 196 = .ok (.iload_n 3, 1) := by decide +kernel
theorem dL_law_197 : decode cL_law 197 = .ok (.iconst 2, 1) := by decide +kernel
theorem dL_law_198 : decode cL_law 198 = .ok (.iadd, 1) := by decide +kernel
theorem dL_law_199 : decode cL_law 199 = .ok (.iaload, 1) := by decide +kernel
theorem dL_law_200 : decode cL_law 200 = .ok (.aload_n 0, 1) := by decide +kernel
theorem dL_law_201 : decode cL_law 201 = .ok (.iload_n 3, 1) := by decide +kernel
theorem dL_law_202 : decode cL_law 202 = .ok (.iconst 3, 1) := by decide +kernel
theorem dL_law_203 : decode cL_law 203 = .ok (.iadd, 1) := by decide +kernel
theorem dL_law_204 : decode cL_law 204 = .ok (.iaload, 1) := by decide +kernel
theorem dL_law_205 : decode cL_law 205 = .ok (.invokevirtual 18, 3) := by decide +kernel
theorem dL_law_208 : decode cL_law 208 = .ok (.aload_n 2, 1) := by decide +kernel
theorem dL_law_209 : decode cL_law 209 = .ok (.aload_n 0, 1) := by decide +kernel
theorem dL_law_210 : decode cL_law 210 = .ok (.iload_n 3, 1) := by decide +kernel
theorem dL_law_211 : decode cL_law 211 = .ok (.iconst 1, 1) := by decide +kernel
theorem dL_law_212 : decode cL_law 212 = .ok (.iadd, 1) := by decide +kernel
theorem dL_law_213 : decode cL_law 213 = .ok (.iaload, 1) := by decide +kernel
theorem dL_law_214 : decode cL_law 214 = .ok (.aload_n 0, 1) := by decide +kernel
theorem dL_law_215 : decode cL_law 215 = .ok (.iload_n 3, 1) := by decide +kernel
theorem dL_law_216 : decode cL_law 216 = .ok (.iconst 2, 1) := by decide +kernel
theorem dL_law_217 : decode cL_law 217 = .ok (.iadd, 1) := by decide +kernel
theorem dL_law_218 : decode cL_law 218 = .ok (.iaload, 1) := by decide +kernel
theorem dL_law_219 : decode cL_law 219 = .ok (.aload_n 0, 1) := by decide +kernel
theorem dL_law_220 : decode cL_law 220 = .ok (.iload_n 3, 1) := by decide +kernel
theorem dL_law_221 : decode cL_law 221 = .ok (.iconst 3, 1) := by decide +kernel
theorem dL_law_222 : decode cL_law 222 = .ok (.iadd, 1) := by decide +kernel
theorem dL_law_223 : decode cL_law 223 = .ok (.iaload, 1) := by decide +kernel
theorem dL_law_224 : decode cL_law 224 = .ok (.invokevirtual 22, 3) := by decide +kernel
theorem dL_law_227 : decode cL_law 227 = .ok (.if_icmp .eq 611, 3) := by decide +kernel
theorem dL_law_230 : decode cL_law 230 = .ok (.iconst 0, 1) := by decide +kernel
theorem dL_law_231 : decode cL_law 231 = .ok (.ireturn, 1) := by decide +kernel
theorem dL_law_232 : decode cL_law 232 = .ok (.aload_n 1, 1) := by decide +kernel
theorem dL_law_233 : decode cL_law 233 = .ok (.aload_n 0, 1) := by decide +kernel
theorem dL_law_234 : decode cL_law 234 = .ok (.iload_n 3, 1) := by decide +kernel
theorem dL_law_235 : decode cL_law 235 = .ok (.iconst 1, 1) := by decide +kernel
theorem dL_law_236 : decode cL_law 236 = .ok (.iadd, 1) := by decide +kernel
theorem dL_law_237 : decode cL_law 237 = .ok (.iaload, 1) := by decide +kernel
theorem dL_law_238 : decode cL_law 238 = .ok (.aload_n 0, 1) := by decide +kernel
theorem dL_law_239 : decode cL_law 239 = .ok (.iload_n 3, 1) := by decide +kernel
theorem dL_law_240 : decode cL_law 240 = .ok (.iconst 2, 1) := by decide +kernel
theorem dL_law_241 : decode cL_law 241 = .ok (.iadd, 1) := by decide +kernel
theorem dL_law_242 : decode cL_law 242 = .ok (.iaload, 1) := by decide +kernel
theorem dL_law_243 : decode cL_law 243 = .ok (.invokevirtual 23, 3) := by decide +kernel
theorem dL_law_246 : decode cL_law 246 = .ok (.aload_n 2, 1) := by decide +kernel
theorem dL_law_247 : decode cL_law 247 = .ok (.aload_n 0, 1) := by decide +kernel
theorem dL_law_248 : decode cL_law 248 = .ok (.iload_n 3, 1) := by decide +kernel
theorem dL_law_249 : decode cL_law 249 = .ok (.iconst 1, 1) := by decide +kernel
theorem dL_law_250 : decode cL_law 250 = .ok (.iadd, 1) := by decide +kernel
theorem dL_law_251 : decode cL_law 251 = .ok (.iaload, 1) := by decide +kernel
theorem dL_law_252 : decode cL_law 252 = .ok (.aload_n 0, 1) := by decide +kernel
theorem dL_law_253 : decode cL_law 253 = .ok (.iload_n 3, 1) := by decide +kernel
theorem dL_law_254 : decode cL_law 254 = .ok (.iconst 2, 1) := by decide +kernel
theorem dL_law_255 : decode cL_law 255 = .ok (.iadd, 1) := by decide +kernel
theorem dL_law_256 : decode cL_law 256 = .ok (.iaload, 1) := by decide +kernel
theorem dL_law_257 : decode cL_law 257 = .ok (.invokevirtual 26, 3) := by decide +kernel
theorem dL_law_260 : decode cL_law 260 = .ok (.if_icmp .eq 578, 3) := by decide +kernel
theorem dL_law_263 : decode cL_law 263 = .ok (.iconst 0, 1) := by decide +kernel
theorem dL_law_264 : decode cL_law 264 = .ok (.ireturn, 1) := by decide +kernel
theorem dL_law_265 : decode cL_law 265 = .ok (.aload_n 1, 1) := by decide +kernel
theorem dL_law_266 : decode cL_law 266 = .ok (.aload_n 0, 1) := by decide +kernel
theorem dL_law_267 : decode cL_law 267 = .ok (.iload_n 3, 1) := by decide +kernel
theorem dL_law_268 : decode cL_law 268 = .ok (.iconst 1, 1) := by decide +kernel
theorem dL_law_269 : decode cL_law 269 = .ok (.iadd, 1) := by decide +kernel
theorem dL_law_270 : decode cL_law 270 = .ok (.iaload, 1) := by decide +kernel
theorem dL_law_271 : decode cL_law 271 = .ok (.aload_n 0, 1) := by decide +kernel
theorem dL_law_272 : decode cL_law 272 = .ok (.iload_n 3, 1) := by decide +kernel
theorem dL_law_273 : decode cL_law 273 = .ok (.iconst 2, 1) := by decide +kernel
theorem dL_law_274 : decode cL_law 274 = .ok (.iadd, 1) := by decide +kernel
theorem dL_law_275 : decode cL_law 275 = .ok (.iaload, 1) := by decide +kernel
theorem dL_law_276 : decode cL_law 276 = .ok (.invokevirtual 27, 3) := by decide +kernel
theorem dL_law_279 : decode cL_law 279 = .ok (.aload_n 2, 1) := by decide +kernel
theorem dL_law_280 : decode cL_law 280 = .ok (.aload_n 0, 1) := by decide +kernel
theorem dL_law_281 : decode cL_law 281 = .ok (.iload_n 3, 1) := by decide +kernel
theorem dL_law_282 : decode cL_law 282 = .ok (.iconst 1, 1) := by decide +kernel
theorem dL_law_283 : decode cL_law 283 = .ok (.iadd, 1) := by decide +kernel
theorem dL_law_284 : decode cL_law 284 = .ok (.iaload, 1) := by decide +kernel
theorem dL_law_285 : decode cL_law 285 = .ok (.aload_n 0, 1) := by decide +kernel
theorem dL_law_286 : decode cL_law 286 = .ok (.iload_n 3, 1) := by decide +kernel
theorem dL_law_287 : decode cL_law 287 = .ok (.iconst 2, 1) := by decide +kernel
theorem dL_law_288 : decode cL_law 288 = .ok (.iadd, 1) := by decide +kernel
theorem dL_law_289 : decode cL_law 289 = .ok (.iaload, 1) := by decide +kernel
theorem dL_law_290 : decode cL_law 290 = .ok (.invokevirtual 30, 3) := by decide +kernel
theorem dL_law_293 : decode cL_law 293 = .ok (.if_icmp .eq 545, 3) := by decide +kernel
theorem dL_law_296 : decode cL_law 296 = .ok (.iconst 0, 1) := by decide +kernel
theorem dL_law_297 : decode cL_law 297 = .ok (.ireturn, 1) := by decide +kernel
theorem dL_law_298 : decode cL_law 298 = .ok (.aload_n 1, 1) := by decide +kernel
theorem dL_law_299 : decode cL_law 299 = .ok (.aload_n 0, 1) := by decide +kernel
theorem dL_law_300 : decode cL_law 300 = .ok (.iload_n 3, 1) := by decide +kernel
theorem dL_law_301 : decode cL_law 301 = .ok (.iconst 1, 1) := by decide +kernel
theorem dL_law_302 : decode cL_law 302 = .ok (.iadd, 1) := by decide +kernel
theorem dL_law_303 : decode cL_law 303 = .ok (.iaload, 1) := by decide +kernel
theorem dL_law_304 : decode cL_law 304 = .ok (.aload_n 0, 1) := by decide +kernel
theorem dL_law_305 : decode cL_law 305 = .ok (.iload_n 3, 1) := by decide +kernel
theorem dL_law_306 : decode cL_law 306 = .ok (.iconst 2, 1) := by decide +kernel
theorem dL_law_307 : decode cL_law 307 = .ok (.iadd, 1) := by decide +kernel
theorem dL_law_308 : decode cL_law 308 = .ok (.iaload, 1) := by decide +kernel
theorem dL_law_309 : decode cL_law 309 = .ok (.invokevirtual 31, 3) := by decide +kernel
theorem dL_law_312 : decode cL_law 312 = .ok (.aload_n 2, 1) := by decide +kernel
theorem dL_law_313 : decode cL_law 313 = .ok (.aload_n 0, 1) := by decide +kernel
theorem dL_law_314 : decode cL_law 314 = .ok (.iload_n 3, 1) := by decide +kernel
theorem dL_law_315 : decode cL_law 315 = .ok (.iconst 1, 1) := by decide +kernel
theorem dL_law_316 : decode cL_law 316 = .ok (.iadd, 1) := by decide +kernel
theorem dL_law_317 : decode cL_law 317 = .ok (.iaload, 1) := by decide +kernel
theorem dL_law_318 : decode cL_law 318 = .ok (.aload_n 0, 1) := by decide +kernel
theorem dL_law_319 : decode cL_law 319 = .ok (.iload_n 3, 1) := by decide +kernel
theorem dL_law_320 : decode cL_law 320 = .ok (.iconst 2, 1) := by decide +kernel
theorem dL_law_321 : decode cL_law 321 = .ok (.iadd, 1) := by decide +kernel
theorem dL_law_322 : decode cL_law 322 = .ok (.iaload, 1) := by decide +kernel
theorem dL_law_323 : decode cL_law 323 = .ok (.invokevirtual 34, 3) := by decide +kernel
theorem dL_law_326 : decode cL_law 326 = .ok (.if_icmp .eq 512, 3) := by decide +kernel
theorem dL_law_329 : decode cL_law 329 = .ok (.iconst 0, 1) := by decide +kernel
theorem dL_law_330 : decode cL_law 330 = .ok (.ireturn, 1) := by decide +kernel
theorem dL_law_331 : decode cL_law 331 = .ok (.aload_n 1, 1) := by decide +kernel
theorem dL_law_332 : decode cL_law 332 = .ok (.invokevirtual 35, 3) := by decide +kernel
theorem dL_law_335 : decode cL_law 335 = .ok (.aload_n 2, 1) := by decide +kernel
theorem dL_law_336 : decode cL_law 336 = .ok (.invokevirtual 39, 3) := by decide +kernel
theorem dL_law_339 : decode cL_law 339 = .ok (.if_icmp .eq 499, 3) := by decide +kernel
theorem dL_law_342 : decode cL_law 342 = .ok (.iconst 0, 1) := by decide +kernel
theorem dL_law_343 : decode cL_law 343 = .ok (.ireturn, 1) := by decide +kernel
theorem dL_law_344 : decode cL_law 344 = .ok (.aload_n 1, 1) := by decide +kernel
theorem dL_law_345 : decode cL_law 345 = .ok (.aload_n 0, 1) := by decide +kernel
theorem dL_law_346 : decode cL_law 346 = .ok (.iload_n 3, 1) := by decide +kernel
theorem dL_law_347 : decode cL_law 347 = .ok (.iconst 1, 1) := by decide +kernel
theorem dL_law_348 : decode cL_law 348 = .ok (.iadd, 1) := by decide +kernel
theorem dL_law_349 : decode cL_law 349 = .ok (.iaload, 1) := by decide +kernel
theorem dL_law_350 : decode cL_law 350 = .ok (.invokevirtual 40, 3) := by decide +kernel
theorem dL_law_353 : decode cL_law 353 = .ok (.aload_n 2, 1) := by decide +kernel
theorem dL_law_354 : decode cL_law 354 = .ok (.aload_n 0, 1) := by decide +kernel
theorem dL_law_355 : decode cL_law 355 = .ok (.iload_n 3, 1) := by decide +kernel
theorem dL_law_356 : decode cL_law 356 = .ok (.iconst 1, 1) := by decide +kernel
theorem dL_law_357 : decode cL_law 357 = .ok (.iadd, 1) := by decide +kernel
theorem dL_law_358 : decode cL_law 358 = .ok (.iaload, 1) := by decide +kernel
theorem dL_law_359 : decode cL_law 359 = .ok (.invokevirtual 44, 3) := by decide +kernel
theorem dL_law_362 : decode cL_law 362 = .ok (.if_icmp .eq 476, 3) := by decide +kernel
theorem dL_law_365 : decode cL_law 365 = .ok (.iconst 0, 1) := by decide +kernel
theorem dL_law_366 : decode cL_law 366 = .ok (.ireturn, 1) := by decide +kernel
theorem dL_law_367 : decode cL_law 367 = .ok (.aload_n 1, 1) := by decide +kernel
theorem dL_law_368 : decode cL_law 368 = .ok (.aload_n 0, 1) := by decide +kernel
theorem dL_law_369 : decode cL_law 369 = .ok (.iload_n 3, 1) := by decide +kernel
theorem dL_law_370 : decode cL_law 370 = .ok (.iconst 1, 1) := by decide +kernel
theorem dL_law_371 : decode cL_law 371 = .ok (.iadd, 1) := by decide +kernel
theorem dL_law_372 : decode cL_law 372 = .ok (.iaload, 1) := by decide +kernel
theorem dL_law_373 : decode cL_law 373 = .ok (.aload_n 0, 1) := by decide +kernel
theorem dL_law_374 : decode cL_law 374 = .ok (.iload_n 3, 1) := by decide +kernel
theorem dL_law_375 : decode cL_law 375 = .ok (.iconst 2, 1) := by decide +kernel
theorem dL_law_376 : decode cL_law 376 = .ok (.iadd, 1) := by decide +kernel
theorem dL_law_377 : decode cL_law 377 = .ok (.iaload, 1) := by decide +kernel
theorem dL_law_378 : decode cL_law 378 = .ok (.aload_n 0, 1) := by decide +kernel
theorem dL_law_379 : decode cL_law 379 = .ok (.iload_n 3, 1) := by decide +kernel
theorem dL_law_380 : decode cL_law 380 = .ok (.iconst 3, 1) := by decide +kernel
theorem dL_law_381 : decode cL_law 381 = .ok (.iadd, 1) := by decide +kernel
theorem dL_law_382 : decode cL_law 382 = .ok (.iaload, 1) := by decide +kernel
theorem dL_law_383 : decode cL_law 383 = .ok (.invokevirtual 45, 3) := by decide +kernel
theorem dL_law_386 : decode cL_law 386 = .ok (.aload_n 2, 1) := by decide +kernel
theorem dL_law_387 : decode cL_law 387 = .ok (.aload_n 0, 1) := by decide +kernel
theorem dL_law_388 : decode cL_law 388 = .ok (.iload_n 3, 1) := by decide +kernel
theorem dL_law_389 : decode cL_law 389 = .ok (.iconst 1, 1) := by decide +kernel
theorem dL_law_390 : decode cL_law 390 = .ok (.iadd, 1) := by decide +kernel
theorem dL_law_391 : decode cL_law 391 = .ok (.iaload, 1) := by decide +kernel
theorem dL_law_392 : decode cL_law 392 = .ok (.aload_n 0, 1) := by decide +kernel
theorem dL_law_393 : decode cL_law 393 = .ok (.iload_n 3, 1) := by decide +kernel
theorem dL_law_394 : decode cL_law 394 = .ok (.iconst 2, 1) := by decide +kernel
theorem dL_law_395 : decode cL_law 395 = .ok (.iadd, 1) := by decide +kernel
theorem dL_law_396 : decode cL_law 396 = .ok (.iaload, 1) := by decide +kernel
theorem dL_law_397 : decode cL_law 397 = .ok (.aload_n 0, 1) := by decide +kernel
theorem dL_law_398 : decode cL_law 398 = .ok (.iload_n 3, 1) := by decide +kernel
theorem dL_law_399 : decode cL_law 399 = .ok (.iconst 3, 1) := by decide +kernel
theorem dL_law_400 : decode cL_law 400 = .ok (.iadd, 1) := by decide +kernel
theorem dL_law_401 : decode cL_law 401 = .ok (.iaload, 1) := by decide +kernel
theorem dL_law_402 : decode cL_law 402 = .ok (.invokevirtual 48, 3) := by decide +kernel
theorem dL_law_405 : decode cL_law 405 = .ok (.if_icmp .eq 433, 3) := by decide +kernel
theorem dL_law_408 : decode cL_law 408 = .ok (.iconst 0, 1) := by decide +kernel
theorem dL_law_409 : decode cL_law 409 = .ok (.ireturn, 1) := by decide +kernel
theorem dL_law_410 : decode cL_law 410 = .ok (.aload_n 1, 1) := by decide +kernel
theorem dL_law_411 : decode cL_law 411 = .ok (.aload_n 0, 1) := by decide +kernel
theorem dL_law_412 : decode cL_law 412 = .ok (.iload_n 3, 1) := by decide +kernel
theorem dL_law_413 : decode cL_law 413 = .ok (.iconst 1, 1) := by decide +kernel
theorem dL_law_414 : decode cL_law 414 = .ok (.iadd, 1) := by decide +kernel
theorem dL_law_415 : decode cL_law 415 = .ok (.iaload, 1) := by decide +kernel
theorem dL_law_416 : decode cL_law 416 = .ok (.invokevirtual 49, 3) := by decide +kernel
theorem dL_law_419 : decode cL_law 419 = .ok (.aload_n 2, 1) := by decide +kernel
theorem dL_law_420 : decode cL_law 420 = .ok (.aload_n 0, 1) := by decide +kernel
theorem dL_law_421 : decode cL_law 421 = .ok (.iload_n 3, 1) := by decide +kernel
theorem dL_law_422 : decode cL_law 422 = .ok (.iconst 1, 1) := by decide +kernel
theorem dL_law_423 : decode cL_law 423 = .ok (.iadd, 1) := by decide +kernel
theorem dL_law_424 : decode cL_law 424 = .ok (.iaload, 1) := by decide +kernel
theorem dL_law_425 : decode cL_law 425 = .ok (.invokevirtual 52, 3) := by decide +kernel
theorem dL_law_428 : decode cL_law 428 = .ok (.if_icmp .eq 410, 3) := by decide +kernel
theorem dL_law_431 : decode cL_law 431 = .ok (.iconst 0, 1) := by decide +kernel
theorem dL_law_432 : decode cL_law 432 = .ok (.ireturn, 1) := by decide +kernel
theorem dL_law_433 : decode cL_law 433 = .ok (.aload_n 1, 1) := by decide +kernel
theorem dL_law_434 : decode cL_law 434 = .ok (.aload_n 0, 1) := by decide +kernel
theorem dL_law_435 : decode cL_law 435 = .ok (.iload_n 3, 1) := by decide +kernel
theorem dL_law_436 : decode cL_law 436 = .ok (.iconst 1, 1) := by decide +kernel
theorem dL_law_437 : decode cL_law 437 = .ok (.iadd, 1) := by decide +kernel
theorem dL_law_438 : decode cL_law 438 = .ok (.iaload, 1) := by decide +kernel
theorem dL_law_439 : decode cL_law 439 = .ok (.invokevirtual 53, 3) := by decide +kernel
theorem dL_law_442 : decode cL_law 442 = .ok (.aload_n 2, 1) := by decide +kernel
theorem dL_law_443 : decode cL_law 443 = .ok (.aload_n 0, 1) := by decide +kernel
theorem dL_law_444 : decode cL_law 444 = .ok (.iload_n 3, 1) := by decide +kernel
theorem dL_law_445 : decode cL_law 445 = .ok (.iconst 1, 1) := by decide +kernel
theorem dL_law_446 : decode cL_law 446 = .ok (.iadd, 1) := by decide +kernel
theorem dL_law_447 : decode cL_law 447 = .ok (.iaload, 1) := by decide +kernel
theorem dL_law_448 : decode cL_law 448 = .ok (.invokevirtual 56, 3) := by decide +kernel
theorem dL_law_451 : decode cL_law 451 = .ok (.if_icmp .eq 387, 3) := by decide +kernel
theorem dL_law_454 : decode cL_law 454 = .ok (.iconst 0, 1) := by decide +kernel
theorem dL_law_455 : decode cL_law 455 = .ok (.ireturn, 1) := by decide +kernel
theorem dL_law_456 : decode cL_law 456 = .ok (.aload_n 1, 1) := by decide +kernel
theorem dL_law_457 : decode cL_law 457 = .ok (.aload_n 0, 1) := by decide +kernel
theorem dL_law_458 : decode cL_law 458 = .ok (.iload_n 3, 1) := by decide +kernel
theorem dL_law_459 : decode cL_law 459 = .ok (.iconst 1, 1) := by decide +kernel
theorem dL_law_460 : decode cL_law 460 = .ok (.iadd, 1) := by decide +kernel
theorem dL_law_461 : decode cL_law 461 = .ok (.iaload, 1) := by decide +kernel
theorem dL_law_462 : decode cL_law 462 = .ok (.invokevirtual 57, 3) := by decide +kernel
theorem dL_law_465 : decode cL_law 465 = .ok (.aload_n 2, 1) := by decide +kernel
theorem dL_law_466 : decode cL_law 466 = .ok (.aload_n 0, 1) := by decide +kernel
theorem dL_law_467 : decode cL_law 467 = .ok (.iload_n 3, 1) := by decide +kernel
theorem dL_law_468 : decode cL_law 468 = .ok (.iconst 1, 1) := by decide +kernel
theorem dL_law_469 : decode cL_law 469 = .ok (.iadd, 1) := by decide +kernel
theorem dL_law_470 : decode cL_law 470 = .ok (.iaload, 1) := by decide +kernel
theorem dL_law_471 : decode cL_law 471 = .ok (.invokevirtual 60, 3) := by decide +kernel
theorem dL_law_474 : decode cL_law 474 = .ok (.if_icmp .eq 364, 3) := by decide +kernel
theorem dL_law_477 : decode cL_law 477 = .ok (.iconst 0, 1) := by decide +kernel
theorem dL_law_478 : decode cL_law 478 = .ok (.ireturn, 1) := by decide +kernel
theorem dL_law_479 : decode cL_law 479 = .ok (.aload_n 1, 1) := by decide +kernel
theorem dL_law_480 : decode cL_law 480 = .ok (.invokevirtual 61, 3) := by decide +kernel
theorem dL_law_483 : decode cL_law 483 = .ok (.aload_n 2, 1) := by decide +kernel
theorem dL_law_484 : decode cL_law 484 = .ok (.invokevirtual 64, 3) := by decide +kernel
theorem dL_law_487 : decode cL_law 487 = .ok (.if_icmp .eq 351, 3) := by decide +kernel
theorem dL_law_490 : decode cL_law 490 = .ok (.iconst 0, 1) := by decide +kernel
theorem dL_law_491 : decode cL_law 491 = .ok (.ireturn, 1) := by decide +kernel
theorem dL_law_492 : decode cL_law 492 = .ok (.aload_n 1, 1) := by decide +kernel
theorem dL_law_493 : decode cL_law 493 = .ok (.aload_n 0, 1) := by decide +kernel
theorem dL_law_494 : decode cL_law 494 = .ok (.iload_n 3, 1) := by decide +kernel
theorem dL_law_495 : decode cL_law 495 = .ok (.iconst 1, 1) := by decide +kernel
theorem dL_law_496 : decode cL_law 496 = .ok (.iadd, 1) := by decide +kernel
theorem dL_law_497 : decode cL_law 497 = .ok (.iaload, 1) := by decide +kernel
theorem dL_law_498 : decode cL_law 498 = .ok (.aload_n 0, 1) := by decide +kernel
theorem dL_law_499 : decode cL_law 499 = .ok (.iload_n 3, 1) := by decide +kernel
theorem dL_law_500 : decode cL_law 500 = .ok (.iconst 2, 1) := by decide +kernel
theorem dL_law_501 : decode cL_law 501 = .ok (.iadd, 1) := by decide +kernel
theorem dL_law_502 : decode cL_law 502 = .ok (.iaload, 1) := by decide +kernel
theorem dL_law_503 : decode cL_law 503 = .ok (.invokevirtual 65, 3) := by decide +kernel
theorem dL_law_506 : decode cL_law 506 = .ok (.aload_n 2, 1) := by decide +kernel
theorem dL_law_507 : decode cL_law 507 = .ok (.aload_n 0, 1) := by decide +kernel
theorem dL_law_508 : decode cL_law 508 = .ok (.iload_n 3, 1) := by decide +kernel
theorem dL_law_509 : decode cL_law 509 = .ok (.iconst 1, 1) := by decide +kernel
theorem dL_law_510 : decode cL_law 510 = .ok (.iadd, 1) := by decide +kernel
theorem dL_law_511 : decode cL_law 511 = .ok (.iaload, 1) := by decide +kernel
theorem dL_law_512 : decode cL_law 512 = .ok (.aload_n 0, 1) := by decide +kernel
theorem dL_law_513 : decode cL_law 513 = .ok (.iload_n 3, 1) := by decide +kernel
theorem dL_law_514 : decode cL_law 514 = .ok (.iconst 2, 1) := by decide +kernel
theorem dL_law_515 : decode cL_law 515 = .ok (.iadd, 1) := by decide +kernel
theorem dL_law_516 : decode cL_law 516 = .ok (.iaload, 1) := by decide +kernel
theorem dL_law_517 : decode cL_law 517 = .ok (.invokevirtual 68, 3) := by decide +kernel
theorem dL_law_520 : decode cL_law 520 = .ok (.if_icmp .eq 318, 3) := by decide +kernel
theorem dL_law_523 : decode cL_law 523 = .ok (.iconst 0, 1) := by decide +kernel
theorem dL_law_524 : decode cL_law 524 = .ok (.ireturn, 1) := by decide +kernel
theorem dL_law_525 : decode cL_law 525 = .ok (.aload_n 1, 1) := by decide +kernel
theorem dL_law_526 : decode cL_law 526 = .ok (.aload_n 0, 1) := by decide +kernel
theorem dL_law_527 : decode cL_law 527 = .ok (.iload_n 3, 1) := by decide +kernel
theorem dL_law_528 : decode cL_law 528 = .ok (.iconst 1, 1) := by decide +kernel
theorem dL_law_529 : decode cL_law 529 = .ok (.iadd, 1) := by decide +kernel
theorem dL_law_530 : decode cL_law 530 = .ok (.iaload, 1) := by decide +kernel
theorem dL_law_531 : decode cL_law 531 = .ok (.invokevirtual 69, 3) := by decide +kernel
theorem dL_law_534 : decode cL_law 534 = .ok (.aload_n 2, 1) := by decide +kernel
theorem dL_law_535 : decode cL_law 535 = .ok (.aload_n 0, 1) := by decide +kernel
theorem dL_law_536 : decode cL_law 536 = .ok (.iload_n 3, 1) := by decide +kernel
theorem dL_law_537 : decode cL_law 537 = .ok (.iconst 1, 1) := by decide +kernel
theorem dL_law_538 : decode cL_law 538 = .ok (.iadd, 1) := by decide +kernel
theorem dL_law_539 : decode cL_law 539 = .ok (.iaload, 1) := by decide +kernel
theorem dL_law_540 : decode cL_law 540 = .ok (.invokevirtual 72, 3) := by decide +kernel
theorem dL_law_543 : decode cL_law 543 = .ok (.if_icmp .eq 295, 3) := by decide +kernel
theorem dL_law_546 : decode cL_law 546 = .ok (.iconst 0, 1) := by decide +kernel
theorem dL_law_547 : decode cL_law 547 = .ok (.ireturn, 1) := by decide +kernel
theorem dL_law_548 : decode cL_law 548 = .ok (.aload_n 1, 1) := by decide +kernel
theorem dL_law_549 : decode cL_law 549 = .ok (.aload_n 0, 1) := by decide +kernel
theorem dL_law_550 : decode cL_law 550 = .ok (.iload_n 3, 1) := by decide +kernel
theorem dL_law_551 : decode cL_law 551 = .ok (.iconst 1, 1) := by decide +kernel
theorem dL_law_552 : decode cL_law 552 = .ok (.iadd, 1) := by decide +kernel
theorem dL_law_553 : decode cL_law 553 = .ok (.iaload, 1) := by decide +kernel
theorem dL_law_554 : decode cL_law 554 = .ok (.invokevirtual 73, 3) := by decide +kernel
theorem dL_law_557 : decode cL_law 557 = .ok (.aload_n 2, 1) := by decide +kernel
theorem dL_law_558 : decode cL_law 558 = .ok (.aload_n 0, 1) := by decide +kernel
theorem dL_law_559 : decode cL_law 559 = .ok (.iload_n 3, 1) := by decide +kernel
theorem dL_law_560 : decode cL_law 560 = .ok (.iconst 1, 1) := by decide +kernel
theorem dL_law_561 : decode cL_law 561 = .ok (.iadd, 1) := by decide +kernel
theorem dL_law_562 : decode cL_law 562 = .ok (.iaload, 1) := by decide +kernel
theorem dL_law_563 : decode cL_law 563 = .ok (.invokevirtual 76, 3) := by decide +kernel
theorem dL_law_566 : decode cL_law 566 = .ok (.if_icmp .eq 272, 3) := by decide +kernel
theorem dL_law_569 : decode cL_law 569 = .ok (.iconst 0, 1) := by decide +kernel
theorem dL_law_570 : decode cL_law 570 = .ok (.ireturn, 1) := by decide +kernel
theorem dL_law_571 : decode cL_law 571 = .ok (.aload_n 1, 1) := by decide +kernel
theorem dL_law_572 : decode cL_law 572 = .ok (.aload_n 0, 1) := by decide +kernel
theorem dL_law_573 : decode cL_law 573 = .ok (.iload_n 3, 1) := by decide +kernel
theorem dL_law_574 : decode cL_law 574 = .ok (.iconst 1, 1) := by decide +kernel
theorem dL_law_575 : decode cL_law 575 = .ok (.iadd, 1) := by decide +kernel
theorem dL_law_576 : decode cL_law 576 = .ok (.iaload, 1) := by decide +kernel
theorem dL_law_577 : decode cL_law 577 = .ok (.invokevirtual 77, 3) := by decide +kernel
theorem dL_law_580 : decode cL_law 580 = .ok (.aload_n 2, 1) := by decide +kernel
theorem dL_law_581 : decode cL_law 581 = .ok (.aload_n 0, 1) := by decide +kernel
theorem dL_law_582 : decode cL_law 582 = .ok (.iload_n 3, 1) := by decide +kernel
theorem dL_law_583 : decode cL_law 583 = .ok (.iconst 1, 1) := by decide +kernel
theorem dL_law_584 : decode cL_law 584 = .ok (.iadd, 1) := by decide +kernel
theorem dL_law_585 : decode cL_law 585 = .ok (.iaload, 1) := by decide +kernel
theorem dL_law_586 : decode cL_law 586 = .ok (.invokevirtual 80, 3) := by decide +kernel
theorem dL_law_589 : decode cL_law 589 = .ok (.if_icmp .eq 249, 3) := by decide +kernel
theorem dL_law_592 : decode cL_law 592 = .ok (.iconst 0, 1) := by decide +kernel
theorem dL_law_593 : decode cL_law 593 = .ok (.ireturn, 1) := by decide +kernel
theorem dL_law_594 : decode cL_law 594 = .ok (.aload_n 1, 1) := by decide +kernel
theorem dL_law_595 : decode cL_law 595 = .ok (.invokevirtual 81, 3) := by decide +kernel
theorem dL_law_598 : decode cL_law 598 = .ok (.aload_n 2, 1) := by decide +kernel
theorem dL_law_599 : decode cL_law 599 = .ok (.invokevirtual 84, 3) := by decide +kernel
theorem dL_law_602 : decode cL_law 602 = .ok (.if_icmp .eq 236, 3) := by decide +kernel
theorem dL_law_605 : decode cL_law 605 = .ok (.iconst 0, 1) := by decide +kernel
theorem dL_law_606 : decode cL_law 606 = .ok (.ireturn, 1) := by decide +kernel
theorem dL_law_607 : decode cL_law 607 = .ok (.aload_n 1, 1) := by decide +kernel
theorem dL_law_608 : decode cL_law 608 = .ok (.aload_n 0, 1) := by decide +kernel
theorem dL_law_609 : decode cL_law 609 = .ok (.iload_n 3, 1) := by decide +kernel
theorem dL_law_610 : decode cL_law 610 = .ok (.iconst 1, 1) := by decide +kernel
theorem dL_law_611 : decode cL_law 611 = .ok (.iadd, 1) := by decide +kernel
theorem dL_law_612 : decode cL_law 612 = .ok (.iaload, 1) := by decide +kernel
theorem dL_law_613 : decode cL_law 613 = .ok (.aload_n 0, 1) := by decide +kernel
theorem dL_law_614 : decode cL_law 614 = .ok (.iload_n 3, 1) := by decide +kernel
theorem dL_law_615 : decode cL_law 615 = .ok (.iconst 2, 1) := by decide +kernel
theorem dL_law_616 : decode cL_law 616 = .ok (.iadd, 1) := by decide +kernel
theorem dL_law_617 : decode cL_law 617 = .ok (.iaload, 1) := by decide +kernel
theorem dL_law_618 : decode cL_law 618 = .ok (.invokevirtual 85, 3) := by decide +kernel
theorem dL_law_621 : decode cL_law 621 = .ok (.aload_n 2, 1) := by decide +kernel
theorem dL_law_622 : decode cL_law 622 = .ok (.aload_n 0, 1) := by decide +kernel
theorem dL_law_623 : decode cL_law 623 = .ok (.iload_n 3, 1) := by decide +kernel
theorem dL_law_624 : decode cL_law 624 = .ok (.iconst 1, 1) := by decide +kernel
theorem dL_law_625 : decode cL_law 625 = .ok (.iadd, 1) := by decide +kernel
theorem dL_law_626 : decode cL_law 626 = .ok (.iaload, 1) := by decide +kernel
theorem dL_law_627 : decode cL_law 627 = .ok (.aload_n 0, 1) := by decide +kernel
theorem dL_law_628 : decode cL_law 628 = .ok (.iload_n 3, 1) := by decide +kernel
theorem dL_law_629 : decode cL_law 629 = .ok (.iconst 2, 1) := by decide +kernel
theorem dL_law_630 : decode cL_law 630 = .ok (.iadd, 1) := by decide +kernel
theorem dL_law_631 : decode cL_law 631 = .ok (.iaload, 1) := by decide +kernel
theorem dL_law_632 : decode cL_law 632 = .ok (.invokevirtual 88, 3) := by decide +kernel
theorem dL_law_635 : decode cL_law 635 = .ok (.if_icmp .eq 203, 3) := by decide +kernel
theorem dL_law_638 : decode cL_law 638 = .ok (.iconst 0, 1) := by decide +kernel
theorem dL_law_639 : decode cL_law 639 = .ok (.ireturn, 1) := by decide +kernel
theorem dL_law_640 : decode cL_law 640 = .ok (.aload_n 1, 1) := by decide +kernel
theorem dL_law_641 : decode cL_law 641 = .ok (.invokevirtual 89, 3) := by decide +kernel
theorem dL_law_644 : decode cL_law 644 = .ok (.f2d, 1) := by decide +kernel
theorem dL_law_645 : decode cL_law 645 = .ok (.dstore 4, 2) := by decide +kernel
theorem dL_law_647 : decode cL_law 647 = .ok (.aload_n 2, 1) := by decide +kernel
theorem dL_law_648 : decode cL_law 648 = .ok (.invokevirtual 93, 3) := by decide +kernel
theorem dL_law_651 : decode cL_law 651 = .ok (.f2d, 1) := by decide +kernel
theorem dL_law_652 : decode cL_law 652 = .ok (.dstore 6, 2) := by decide +kernel
theorem dL_law_654 : decode cL_law 654 = .ok (.dload 4, 2) := by decide +kernel
theorem dL_law_656 : decode cL_law 656 = .ok (.dload 6, 2) := by decide +kernel
theorem dL_law_658 : decode cL_law 658 = .ok (.dcmp .l, 1) := by decide +kernel
theorem dL_law_659 : decode cL_law 659 = .ok (.ifCond .eq 21, 3) := by decide +kernel
theorem dL_law_662 : decode cL_law 662 = .ok (.dload 4, 2) := by decide +kernel
theorem dL_law_664 : decode cL_law 664 = .ok (.dload 4, 2) := by decide +kernel
theorem dL_law_666 : decode cL_law 666 = .ok (.dcmp .l, 1) := by decide +kernel
theorem dL_law_667 : decode cL_law 667 = .ok (.ifCond .eq 11, 3) := by decide +kernel
theorem dL_law_670 : decode cL_law 670 = .ok (.dload 6, 2) := by decide +kernel
theorem dL_law_672 : decode cL_law 672 = .ok (.dload 6, 2) := by decide +kernel
theorem dL_law_674 : decode cL_law 674 = .ok (.dcmp .l, 1) := by decide +kernel
theorem dL_law_675 : decode cL_law 675 = .ok (.ifCond .ne 5, 3) := by decide +kernel
theorem dL_law_678 : decode cL_law 678 = .ok (.iconst 0, 1) := by decide +kernel
theorem dL_law_679 : decode cL_law 679 = .ok (.ireturn, 1) := by decide +kernel
theorem dL_law_680 : decode cL_law 680 = .ok (.goto 158, 3) := by decide +kernel
theorem dL_law_683 : decode cL_law 683 = .ok (.aload_n 1, 1) := by decide +kernel
theorem dL_law_684 : decode cL_law 684 = .ok (.invokevirtual 94, 3) := by decide +kernel
theorem dL_law_687 : decode cL_law 687 = .ok (.aload_n 2, 1) := by decide +kernel
theorem dL_law_688 : decode cL_law 688 = .ok (.invokevirtual 97, 3) := by decide +kernel
theorem dL_law_691 : decode cL_law 691 = .ok (.if_icmp .eq 147, 3) := by decide +kernel
theorem dL_law_694 : decode cL_law 694 = .ok (.iconst 0, 1) := by decide +kernel
theorem dL_law_695 : decode cL_law 695 = .ok (.ireturn, 1) := by decide +kernel
theorem dL_law_696 : decode cL_law 696 = .ok (.aload_n 1, 1) := by decide +kernel
theorem dL_law_697 : decode cL_law 697 = .ok (.aload_n 0, 1) := by decide +kernel
theorem dL_law_698 : decode cL_law 698 = .ok (.iload_n 3, 1) := by decide +kernel
theorem dL_law_699 : decode cL_law 699 = .ok (.iconst 1, 1) := by decide +kernel
theorem dL_law_700 : decode cL_law 700 = .ok (.iadd, 1) := by decide +kernel
theorem dL_law_701 : decode cL_law 701 = .ok (.iaload, 1) := by decide +kernel
theorem dL_law_702 : decode cL_law 702 = .ok (.aload_n 0, 1) := by decide +kernel
theorem dL_law_703 : decode cL_law 703 = .ok (.iload_n 3, 1) := by decide +kernel
theorem dL_law_704 : decode cL_law 704 = .ok (.iconst 2, 1) := by decide +kernel
theorem dL_law_705 : decode cL_law 705 = .ok (.iadd, 1) := by decide +kernel
theorem dL_law_706 : decode cL_law 706 = .ok (.iaload, 1) := by decide +kernel
theorem dL_law_707 : decode cL_law 707 = .ok (.invokevirtual 98, 3) := by decide +kernel
theorem dL_law_710 : decode cL_law 710 = .ok (.aload_n 2, 1) := by decide +kernel
theorem dL_law_711 : decode cL_law 711 = .ok (.aload_n 0, 1) := by decide +kernel
theorem dL_law_712 : decode cL_law 712 = .ok (.iload_n 3, 1) := by decide +kernel
theorem dL_law_713 : decode cL_law 713 = .ok (.iconst 1, 1) := by decide +kernel
theorem dL_law_714 : decode cL_law 714 = .ok (.iadd, 1) := by decide +kernel
theorem dL_law_715 : decode cL_law 715 = .ok (.iaload, 1) := by decide +kernel
theorem dL_law_716 : decode cL_law 716 = .ok (.aload_n 0, 1) := by decide +kernel
theorem dL_law_717 : decode cL_law 717 = .ok (.iload_n 3, 1) := by decide +kernel
theorem dL_law_718 : decode cL_law 718 = .ok (.iconst 2, 1) := by decide +kernel
theorem dL_law_719 : decode cL_law 719 = .ok (.iadd, 1) := by decide +kernel
theorem dL_law_720 : decode cL_law 720 = .ok (.iaload, 1) := by decide +kernel
theorem dL_law_721 : decode cL_law 721 = .ok (.invokevirtual 101, 3) := by decide +kernel
theorem dL_law_724 : decode cL_law 724 = .ok (.if_icmp .eq 114, 3) := by decide +kernel
theorem dL_law_727 : decode cL_law 727 = .ok (.iconst 0, 1) := by decide +kernel
theorem dL_law_728 : decode cL_law 728 = .ok (.ireturn, 1) := by decide +kernel
theorem dL_law_729 : decode cL_law 729 = .ok (.aload_n 1, 1) := by decide +kernel
theorem dL_law_730 : decode cL_law 730 = .ok (.aload_n 0, 1) := by decide +kernel
theorem dL_law_731 : decode cL_law 731 = .ok (.iload_n 3, 1) := by decide +kernel
theorem dL_law_732 : decode cL_law 732 = .ok (.iconst 1, 1) := by decide +kernel
theorem dL_law_733 : decode cL_law 733 = .ok (.iadd, 1) := by decide +kernel
theorem dL_law_734 : decode cL_law 734 = .ok (.iaload, 1) := by decide +kernel
theorem dL_law_735 : decode cL_law 735 = .ok (.aload_n 0, 1) := by decide +kernel
theorem dL_law_736 : decode cL_law 736 = .ok (.iload_n 3, 1) := by decide +kernel
theorem dL_law_737 : decode cL_law 737 = .ok (.iconst 2, 1) := by decide +kernel
theorem dL_law_738 : decode cL_law 738 = .ok (.iadd, 1) := by decide +kernel
theorem dL_law_739 : decode cL_law 739 = .ok (.iaload, 1) := by decide +kernel
theorem dL_law_740 : decode cL_law 740 = .ok (.invokevirtual 102, 3) := by decide +kernel
theorem dL_law_743 : decode cL_law 743 = .ok (.aload_n 2, 1) := by decide +kernel
theorem dL_law_744 : decode cL_law 744 = .ok (.aload_n 0, 1) := by decide +kernel
theorem dL_law_745 : decode cL_law 745 = .ok (.iload_n 3, 1) := by decide +kernel
theorem dL_law_746 : decode cL_law 746 = .ok (.iconst 1, 1) := by decide +kernel
theorem dL_law_747 : decode cL_law 747 = .ok (.iadd, 1) := by decide +kernel
theorem dL_law_748 : decode cL_law 748 = .ok (.iaload, 1) := by decide +kernel
theorem dL_law_749 : decode cL_law 749 = .ok (.aload_n 0, 1) := by decide +kernel
theorem dL_law_750 : decode cL_law 750 = .ok (.iload_n 3, 1) := by decide +kernel
theorem dL_law_751 : decode cL_law 751 = .ok (.iconst 2, 1) := by decide +kernel
theorem dL_law_752 : decode cL_law 752 = .ok (.iadd, 1) := by decide +kernel
theorem dL_law_753 : decode cL_law 753 = .ok (.iaload, 1) := by decide +kernel
theorem dL_law_754 : decode cL_law 754 = .ok (.invokevirtual 105, 3) := by decide +kernel
theorem dL_law_757 : decode cL_law 757 = .ok (.if_icmp .eq 81, 3) := by decide +kernel
theorem dL_law_760 : decode cL_law 760 = .ok (.iconst 0, 1) := by decide +kernel
theorem dL_law_761 : decode cL_law 761 = .ok (.ireturn, 1) := by decide +kernel
theorem dL_law_762 : decode cL_law 762 = .ok (.aload_n 1, 1) := by decide +kernel
theorem dL_law_763 : decode cL_law 763 = .ok (.aload_n 0, 1) := by decide +kernel
theorem dL_law_764 : decode cL_law 764 = .ok (.iload_n 3, 1) := by decide +kernel
theorem dL_law_765 : decode cL_law 765 = .ok (.iconst 1, 1) := by decide +kernel
theorem dL_law_766 : decode cL_law 766 = .ok (.iadd, 1) := by decide +kernel
theorem dL_law_767 : decode cL_law 767 = .ok (.iaload, 1) := by decide +kernel
theorem dL_law_768 : decode cL_law 768 = .ok (.invokevirtual 106, 3) := by decide +kernel
theorem dL_law_771 : decode cL_law 771 = .ok (.aload_n 2, 1) := by decide +kernel
theorem dL_law_772 : decode cL_law 772 = .ok (.aload_n 0, 1) := by decide +kernel
theorem dL_law_773 : decode cL_law 773 = .ok (.iload_n 3, 1) := by decide +kernel
theorem dL_law_774 : decode cL_law 774 = .ok (.iconst 1, 1) := by decide +kernel
theorem dL_law_775 : decode cL_law 775 = .ok (.iadd, 1) := by decide +kernel
theorem dL_law_776 : decode cL_law 776 = .ok (.iaload, 1) := by decide +kernel
theorem dL_law_777 : decode cL_law 777 = .ok (.invokevirtual 109, 3) := by decide +kernel
theorem dL_law_780 : decode cL_law 780 = .ok (.if_icmp .eq 58, 3) := by decide +kernel
theorem dL_law_783 : decode cL_law 783 = .ok (.iconst 0, 1) := by decide +kernel
theorem dL_law_784 : decode cL_law 784 = .ok (.ireturn, 1) := by decide +kernel
theorem dL_law_785 : decode cL_law 785 = .ok (.aload_n 1, 1) := by decide +kernel
theorem dL_law_786 : decode cL_law 786 = .ok (.invokevirtual 110, 3) := by decide +kernel
theorem dL_law_789 : decode cL_law 789 = .ok (.aload_n 2, 1) := by decide +kernel
theorem dL_law_790 : decode cL_law 790 = .ok (.invokevirtual 113, 3) := by decide +kernel
theorem dL_law_793 : decode cL_law 793 = .ok (.if_icmp .eq 45, 3) := by decide +kernel
theorem dL_law_796 : decode cL_law 796 = .ok (.iconst 0, 1) := by decide +kernel
theorem dL_law_797 : decode cL_law 797 = .ok (.ireturn, 1) := by decide +kernel
theorem dL_law_798 : decode cL_law 798 = .ok (.aload_n 1, 1) := by decide +kernel
theorem dL_law_799 : decode cL_law 799 = .ok (.invokevirtual 114, 3) := by decide +kernel
theorem dL_law_802 : decode cL_law 802 = .ok (.aload_n 2, 1) := by decide +kernel
theorem dL_law_803 : decode cL_law 803 = .ok (.invokevirtual 117, 3) := by decide +kernel
theorem dL_law_806 : decode cL_law 806 = .ok (.if_icmp .eq 32, 3) := by decide +kernel
theorem dL_law_809 : decode cL_law 809 = .ok (.iconst 0, 1) := by decide +kernel
theorem dL_law_810 : decode cL_law 810 = .ok (.ireturn, 1) := by decide +kernel
theorem dL_law_811 : decode cL_law 811 = .ok (.aload_n 1, 1) := by decide +kernel
theorem dL_law_812 : decode cL_law 812 = .ok (.invokevirtual 118, 3) := by decide +kernel
theorem dL_law_815 : decode cL_law 815 = .ok (.aload_n 2, 1) := by decide +kernel
theorem dL_law_816 : decode cL_law 816 = .ok (.invokevirtual 121, 3) := by decide +kernel
theorem dL_law_819 : decode cL_law 819 = .ok (.if_icmp .eq 19, 3) := by decide +kernel
theorem dL_law_822 : decode cL_law 822 = .ok (.iconst 0, 1) := by decide +kernel
theorem dL_law_823 : decode cL_law 823 = .ok (.ireturn, 1) := by decide +kernel
theorem dL_law_824 : decode cL_law 824 = .ok (.aload_n 1, 1) := by decide +kernel
theorem dL_law_825 : decode cL_law 825 = .ok (.invokevirtual 122, 3) := by decide +kernel
theorem dL_law_828 : decode cL_law 828 = .ok (.aload_n 2, 1) := by decide +kernel
theorem dL_law_829 : decode cL_law 829 = .ok (.invokevirtual 126, 3) := by decide +kernel
theorem dL_law_832 : decode cL_law 832 = .ok (.lcmp, 1) := by decide +kernel
theorem dL_law_833 : decode cL_law 833 = .ok (.ifCond .eq 5, 3) := by decide +kernel
theorem dL_law_836 : decode cL_law 836 = .ok (.iconst 0, 1) := by decide +kernel
theorem dL_law_837 : decode cL_law 837 = .ok (.ireturn, 1) := by decide +kernel
theorem dL_law_838 : decode cL_law 838 = .ok (.iinc 3 4, 3) := by decide +kernel
theorem dL_law_841 : decode cL_law 841 = .ok (.goto (-823), 3) := by decide +kernel
theorem dL_law_844 : decode cL_law 844 = .ok (.iconst 1, 1) := by decide +kernel
theorem dL_law_845 : decode cL_law 845 = .ok (.ireturn, 1) := by decide +kernel
theorem dJ9_floorMod_7cf53_0 : decode cJ9_floorMod_7cf53 0 = .ok (.iload_n 0, 1) := by decide +kernel
theorem dJ9_floorMod_7cf53_1 : decode cJ9_floorMod_7cf53 1 = .ok (.iload_n 1, 1) := by decide +kernel
theorem dJ9_floorMod_7cf53_2 : decode cJ9_floorMod_7cf53 2 = .ok (.irem, 1) := by decide +kernel
theorem dJ9_floorMod_7cf53_3 : decode cJ9_floorMod_7cf53 3 = .ok (.istore_n 2, 1) := by decide +kernel
theorem dJ9_floorMod_7cf53_4 : decode cJ9_floorMod_7cf53 4 = .ok (.iload_n 0, 1) := by decide +kernel
theorem dJ9_floorMod_7cf53_5 : decode cJ9_floorMod_7cf53 5 = .ok (.iload_n 1, 1) := by decide +kernel
theorem dJ9_floorMod_7cf53_6 : decode cJ9_floorMod_7cf53 6 = .ok (.ixor, 1) := by decide +kernel
theorem dJ9_floorMod_7cf53_7 : decode cJ9_floorMod_7cf53 7 = .ok (.ifCond .ge 11, 3) := by decide +kernel
theorem dJ9_floorMod_7cf53_10 : decode cJ9_floorMod_7cf53 10 = .ok (.iload_n 2, 1) := by decide +kernel
theorem dJ9_floorMod_7cf53_11 : decode cJ9_floorMod_7cf53 11 = .ok (.ifCond .eq 7, 3) := by decide +kernel
theorem dJ9_floorMod_7cf53_14 : decode cJ9_floorMod_7cf53 14 = .ok (.iload_n 2, 1) := by decide +kernel
theorem dJ9_floorMod_7cf53_15 : decode cJ9_floorMod_7cf53 15 = .ok (.iload_n 1, 1) := by decide +kernel
theorem dJ9_floorMod_7cf53_16 : decode cJ9_floorMod_7cf53 16 = .ok (.iadd, 1) := by decide +kernel
theorem dJ9_floorMod_7cf53_17 : decode cJ9_floorMod_7cf53 17 = .ok (.ireturn, 1) := by decide +kernel
theorem dJ9_floorMod_7cf53_18 : decode cJ9_floorMod_7cf53 18 = .ok (.iload_n 2, 1) := by decide +kernel
theorem dJ9_floorMod_7cf53_19 : decode cJ9_floorMod_7cf53 19 = .ok (.ireturn, 1) := by decide +kernel
theorem dJ9_max_7cf53_0 : decode cJ9_max_7cf53 0 = .ok (.iload_n 0, 1) := by decide +kernel
theorem dJ9_max_7cf53_1 : decode cJ9_max_7cf53 1 = .ok (.iload_n 1, 1) := by decide +kernel
theorem dJ9_max_7cf53_2 : decode cJ9_max_7cf53 2 = .ok (.if_icmp .lt 7, 3) := by decide +kernel
theorem dJ9_max_7cf53_5 : decode cJ9_max_7cf53 5 = .ok (.iload_n 0, 1) := by decide +kernel
theorem dJ9_max_7cf53_6 : decode cJ9_max_7cf53 6 = .ok (.goto 4, 3) := by decide +kernel
theorem dJ9_max_7cf53_9 : decode cJ9_max_7cf53 9 = .ok (.iload_n 1, 1) := by decide +kernel
theorem dJ9_max_7cf53_10 : decode cJ9_max_7cf53 10 = .ok (.ireturn, 1) := by decide +kernel
theorem dJ9_min_7cf53_0 : decode cJ9_min_7cf53 0 = .ok (.iload_n 0, 1) := by decide +kernel
theorem dJ9_min_7cf53_1 : decode cJ9_min_7cf53 1 = .ok (.iload_n 1, 1) := by decide +kernel
theorem dJ9_min_7cf53_2 : decode cJ9_min_7cf53 2 = .ok (.if_icmp .gt 7, 3) := by decide +kernel
theorem dJ9_min_7cf53_5 : decode cJ9_min_7cf53 5 = .ok (.iload_n 0, 1) := by decide +kernel
theorem dJ9_min_7cf53_6 : decode cJ9_min_7cf53 6 = .ok (.goto 4, 3) := by decide +kernel
theorem dJ9_min_7cf53_9 : decode cJ9_min_7cf53 9 = .ok (.iload_n 1, 1) := by decide +kernel
theorem dJ9_min_7cf53_10 : decode cJ9_min_7cf53 10 = .ok (.ireturn, 1) := by decide +kernel
theorem dJ0_length_8abf5_0 : decode cJ0_length_8abf5 0 = .ok (.aload_n 0, 1) := by decide +kernel
theorem dJ0_length_8abf5_1 : decode cJ0_length_8abf5 1 = .ok (.getfield 9, 3) := by decide +kernel
theorem dJ0_length_8abf5_4 : decode cJ0_length_8abf5 4 = .ok (.arraylength, 1) := by decide +kernel
theorem dJ0_length_8abf5_5 : decode cJ0_length_8abf5 5 = .ok (.aload_n 0, 1) := by decide +kernel
theorem dJ0_length_8abf5_6 : decode cJ0_length_8abf5 6 = .ok (.invokevirtual 335, 3) := by decide +kernel
theorem dJ0_length_8abf5_9 : decode cJ0_length_8abf5 9 = .ok (.ishr, 1) := by decide +kernel
theorem dJ0_length_8abf5_10 : decode cJ0_length_8abf5 10 = .ok (.ireturn, 1) := by decide +kernel
theorem dJ0_charAt_5068e_0 : decode cJ0_charAt_5068e 0 = .ok (.aload_n 0, 1) := by decide +kernel
theorem dJ0_charAt_5068e_1 : decode cJ0_charAt_5068e 1 = .ok (.invokevirtual 492, 3) := by decide +kernel
theorem dJ0_charAt_5068e_4 : decode cJ0_charAt_5068e 4 = .ok (.ifCond .eq 12, 3) := by decide +kernel
theorem dJ0_charAt_5068e_7 : decode cJ0_charAt_5068e 7 = .ok (.aload_n 0, 1) := by decide +kernel
theorem dJ0_charAt_5068e_8 : decode cJ0_charAt_5068e 8 = .ok (.getfield 9, 3) := by decide +kernel
theorem dJ0_charAt_5068e_11 : decode cJ0_charAt_5068e 11 = .ok (.iload_n 1, 1) := by decide +kernel
theorem dJ0_charAt_5068e_12 : decode cJ0_charAt_5068e 12 = .ok (.invokestatic 495, 3) := by decide +kernel
theorem dJ0_charAt_5068e_15 : decode cJ0_charAt_5068e 15 = .ok (.ireturn, 1) := by decide +kernel
theorem dJ0_charAt_5068e_16 : decode cJ0_charAt_5068e 16 = .ok (.aload_n 0, 1) := by decide +kernel
theorem dJ0_charAt_5068e_17 : decode cJ0_charAt_5068e 17 = .ok (.getfield 9, 3) := by decide +kernel
theorem dJ0_charAt_5068e_20 : decode cJ0_charAt_5068e 20 = .ok (.iload_n 1, 1) := by decide +kernel
theorem dJ0_charAt_5068e_21 : decode cJ0_charAt_5068e 21 = .ok (.invokestatic 498, 3) := by decide +kernel
theorem dJ0_charAt_5068e_24 : decode cJ0_charAt_5068e 24 = .ok (.ireturn, 1) := by decide +kernel
theorem dJ0_coder_7d493_0 : decode cJ0_coder_7d493 0 = .ok (.getstatic 38, 3) := by decide +kernel
theorem dJ0_coder_7d493_3 : decode cJ0_coder_7d493 3 = .ok (.ifCond .eq 10, 3) := by decide +kernel
theorem dJ0_coder_7d493_6 : decode cJ0_coder_7d493 6 = .ok (.aload_n 0, 1) := by decide +kernel
theorem dJ0_coder_7d493_7 : decode cJ0_coder_7d493 7 = .ok (.getfield 15, 3) := by decide +kernel
theorem dJ0_coder_7d493_10 : decode cJ0_coder_7d493 10 = .ok (.goto 4, 3) := by decide +kernel
theorem dJ0_coder_7d493_13 : decode cJ0_coder_7d493 13 = .ok (.iconst 1, 1) := by decide +kernel
theorem dJ0_coder_7d493_14 : decode cJ0_coder_7d493 14 = .ok (.ireturn, 1) := by decide +kernel
theorem dJ0_isLatin1_aae02_0 : decode cJ0_isLatin1_aae02 0 = .ok (.getstatic 38, 3) := by decide +kernel
theorem dJ0_isLatin1_aae02_3 : decode cJ0_isLatin1_aae02 3 = .ok (.ifCond .eq 14, 3) := by decide +kernel
theorem dJ0_isLatin1_aae02_6 : decode cJ0_isLatin1_aae02 6 = .ok (.aload_n 0, 1) := by decide +kernel
theorem dJ0_isLatin1_aae02_7 : decode cJ0_isLatin1_aae02 7 = .ok (.getfield 15, 3) := by decide +kernel
theorem dJ0_isLatin1_aae02_10 : decode cJ0_isLatin1_aae02 10 = .ok (.ifCond .ne 7, 3) := by decide +kernel
theorem dJ0_isLatin1_aae02_13 : decode cJ0_isLatin1_aae02 13 = .ok (.iconst 1, 1) := by decide +kernel
theorem dJ0_isLatin1_aae02_14 : decode cJ0_isLatin1_aae02 14 = .ok (.goto 4, 3) := by decide +kernel
theorem dJ0_isLatin1_aae02_17 : decode cJ0_isLatin1_aae02 17 = .ok (.iconst 0, 1) := by decide +kernel
theorem dJ0_isLatin1_aae02_18 : decode cJ0_isLatin1_aae02 18 = .ok (.ireturn, 1) := by decide +kernel
theorem dJ0_checkIndex_df160_0 : decode cJ0_checkIndex_df160 0 = .ok (.iload_n 0, 1) := by decide +kernel
theorem dJ0_checkIndex_df160_1 : decode cJ0_checkIndex_df160 1 = .ok (.iload_n 1, 1) := by decide +kernel
theorem dJ0_checkIndex_df160_2 : decode cJ0_checkIndex_df160 2 = .ok (.getstatic 1053, 3) := by decide +kernel
theorem dJ0_checkIndex_df160_5 : decode cJ0_checkIndex_df160 5 = .ok (.invokestatic 1059, 3) := by decide +kernel
theorem dJ0_checkIndex_df160_8 : decode cJ0_checkIndex_df160 8 = .ok (.pop, 1) := by decide +kernel
theorem dJ0_checkIndex_df160_9 : decode cJ0_checkIndex_df160 9 = .ok (.return_, 1) := by decide +kernel
theorem dJ1_charAt_3b067_0 : decode cJ1_charAt_3b067 0 = .ok (.iload_n 1, 1) := by decide +kernel
theorem dJ1_charAt_3b067_1 : decode cJ1_charAt_3b067 1 = .ok (.aload_n 0, 1) := by decide +kernel
theorem dJ1_charAt_3b067_2 : decode cJ1_charAt_3b067 2 = .ok (.arraylength, 1) := by decide +kernel
theorem dJ1_charAt_3b067_3 : decode cJ1_charAt_3b067 3 = .ok (.invokestatic 9, 3) := by decide +kernel
theorem dJ1_charAt_3b067_6 : decode cJ1_charAt_3b067 6 = .ok (.aload_n 0, 1) := by decide +kernel
theorem dJ1_charAt_3b067_7 : decode cJ1_charAt_3b067 7 = .ok (.iload_n 1, 1) := by decide +kernel
theorem dJ1_charAt_3b067_8 : decode cJ1_charAt_3b067 8 = .ok (.baload, 1) := by decide +kernel
theorem dJ1_charAt_3b067_9 : decode cJ1_charAt_3b067 9 = .ok (.sipush 255, 3) := by decide +kernel
theorem dJ1_charAt_3b067_12 : decode cJ1_charAt_3b067 12 = .ok (.iand, 1) := by decide +kernel
theorem dJ1_charAt_3b067_13 : decode cJ1_charAt_3b067 13 = .ok (.i2c, 1) := by decide +kernel
theorem dJ1_charAt_3b067_14 : decode cJ1_charAt_3b067 14 = .ok (.ireturn, 1) := by decide +kernel
theorem dJ2_getChar_3b067_0 : decode cJ2_getChar_3b067 0 = .ok (.getstatic 44, 3) := by decide +kernel
theorem dJ2_getChar_3b067_3 : decode cJ2_getChar_3b067 3 = .ok (.ifCond .ne 25, 3) := by decide +kernel
theorem dJ2_getChar_3b067_6 : decode cJ2_getChar_3b067 6 = .ok (.iload_n 1, 1) := by decide +kernel
theorem dJ2_getChar_3b067_7 : decode cJ2_getChar_3b067 7 = .ok (.ifCond .lt 11, 3) := by decide +kernel
theorem dJ2_getChar_3b067_10 : decode cJ2_getChar_3b067 10 = .ok (.iload_n 1, 1) := by decide +kernel
theorem dJ2_getChar_3b067_11 : decode cJ2_getChar_3b067 11 = .ok (.aload_n 0, 1) := by decide +kernel
theorem dJ2_getChar_3b067_12 : decode cJ2_getChar_3b067 12 = .ok (.invokestatic 48, 3) := by decide +kernel
theorem dJ2_getChar_3b067_15 : decode cJ2_getChar_3b067 15 = .ok (.if_icmp .lt 13, 3) := by decide +kernel
theorem dJ2_getChar_3b067_18 : decode cJ2_getChar_3b067 18 = .ok (.new 52, 3) := by decide +kernel
theorem dJ2_getChar_3b067_21 : decode cJ2_getChar_3b067 21 = .ok (.dup, 1) := by decide +kernel
theorem dJ2_getChar_3b067_22 : decode cJ2_getChar_3b067 22 = .ok (.ldc 54, 2) := by decide +kernel
theorem dJ2_getChar_3b067_24 : decode cJ2_getChar_3b067 24 = .ok (.invokespecial 56, 3) := by decide +kernel
theorem dJ2_getChar_3b067_27 : decode cJ2_getChar_3b067 27 = .ok (.athrow, 1) := by decide +kernel
theorem dJ2_getChar_3b067_28 : decode cJ2_getChar_3b067 28 = .ok (.iload_n 1, 1) := by decide +kernel
theorem dJ2_getChar_3b067_29 : decode cJ2_getChar_3b067 29 = .ok (.iconst 1, 1) := by decide +kernel
theorem dJ2_getChar_3b067_30 : decode cJ2_getChar_3b067 30 = .ok (.ishl, 1) := by decide +kernel
theorem dJ2_getChar_3b067_31 : decode cJ2_getChar_3b067 31 = .ok (.istore_n 1, 1) := by decide +kernel
theorem dJ2_getChar_3b067_32 : decode cJ2_getChar_3b067 32 = .ok (.aload_n 0, 1) := by decide +kernel
theorem dJ2_getChar_3b067_33 : decode cJ2_getChar_3b067 33 = .ok (.iload_n 1, 1) := by decide +kernel
theorem dJ2_getChar_3b067_34 : decode cJ2_getChar_3b067 34 = .ok (.iinc 1 1, 3) := by decide +kernel
theorem dJ2_getChar_3b067_37 : decode cJ2_getChar_3b067 37 = .ok (.baload, 1) := by decide +kernel
theorem dJ2_getChar_3b067_38 : decode cJ2_getChar_3b067 38 = .ok (.sipush 255, 3) := by decide +kernel
theorem dJ2_getChar_3b067_41 : decode cJ2_getChar_3b067 41 = .ok (.iand, 1) := by decide +kernel
theorem dJ2_getChar_3b067_42 : decode cJ2_getChar_3b067 42 = .ok (.getstatic 59, 3) := by decide +kernel
theorem dJ2_getChar_3b067_45 : decode cJ2_getChar_3b067 45 = .ok (.ishl, 1) := by decide +kernel
theorem dJ2_getChar_3b067_46 : decode cJ2_getChar_3b067 46 = .ok (.aload_n 0, 1) := by decide +kernel
theorem dJ2_getChar_3b067_47 : decode cJ2_getChar_3b067 47 = .ok (.iload_n 1, 1) := by decide +kernel
theorem dJ2_getChar_3b067_48 : decode cJ2_getChar_3b067 48 = .ok (.baload, 1) := by decide +kernel
theorem dJ2_getChar_3b067_49 : decode cJ2_getChar_3b067 49 = .ok (.sipush 255, 3) := by decide +kernel
theorem dJ2_getChar_3b067_52 : decode cJ2_getChar_3b067 52 = .ok (.iand, 1) := by decide +kernel
theorem dJ2_getChar_3b067_53 : decode cJ2_getChar_3b067 53 = .ok (.getstatic 63, 3) := by decide +kernel
theorem dJ2_getChar_3b067_56 : decode cJ2_getChar_3b067 56 = .ok (.ishl, 1) := by decide +kernel
theorem dJ2_getChar_3b067_57 : decode cJ2_getChar_3b067 57 = .ok (.ior, 1) := by decide +kernel
theorem dJ2_getChar_3b067_58 : decode cJ2_getChar_3b067 58 = .ok (.i2c, 1) := by decide +kernel
theorem dJ2_getChar_3b067_59 : decode cJ2_getChar_3b067 59 = .ok (.ireturn, 1) := by decide +kernel
theorem dJ2_length_9d52b_0 : decode cJ2_length_9d52b 0 = .ok (.aload_n 0, 1) := by decide +kernel
theorem dJ2_length_9d52b_1 : decode cJ2_length_9d52b 1 = .ok (.arraylength, 1) := by decide +kernel
theorem dJ2_length_9d52b_2 : decode cJ2_length_9d52b 2 = .ok (.iconst 1, 1) := by decide +kernel
theorem dJ2_length_9d52b_3 : decode cJ2_length_9d52b 3 = .ok (.ishr, 1) := by decide +kernel
theorem dJ2_length_9d52b_4 : decode cJ2_length_9d52b 4 = .ok (.ireturn, 1) := by decide +kernel
theorem dJ2_charAt_3b067_0 : decode cJ2_charAt_3b067 0 = .ok (.iload_n 1, 1) := by decide +kernel
theorem dJ2_charAt_3b067_1 : decode cJ2_charAt_3b067 1 = .ok (.aload_n 0, 1) := by decide +kernel
theorem dJ2_charAt_3b067_2 : decode cJ2_charAt_3b067 2 = .ok (.invokestatic 67, 3) := by decide +kernel
theorem dJ2_charAt_3b067_5 : decode cJ2_charAt_3b067 5 = .ok (.aload_n 0, 1) := by decide +kernel
theorem dJ2_charAt_3b067_6 : decode cJ2_charAt_3b067 6 = .ok (.iload_n 1, 1) := by decide +kernel
theorem dJ2_charAt_3b067_7 : decode cJ2_charAt_3b067 7 = .ok (.invokestatic 71, 3) := by decide +kernel
theorem dJ2_charAt_3b067_10 : decode cJ2_charAt_3b067 10 = .ok (.ireturn, 1) := by decide +kernel
theorem dJ2_checkIndex_2214a_0 : decode cJ2_checkIndex_2214a 0 = .ok (.iload_n 0, 1) := by decide +kernel
theorem dJ2_checkIndex_2214a_1 : decode cJ2_checkIndex_2214a 1 = .ok (.aload_n 1, 1) := by decide +kernel
theorem dJ2_checkIndex_2214a_2 : decode cJ2_checkIndex_2214a 2 = .ok (.invokestatic 48, 3) := by decide +kernel
theorem dJ2_checkIndex_2214a_5 : decode cJ2_checkIndex_2214a 5 = .ok (.invokestatic 414, 3) := by decide +kernel
theorem dJ2_checkIndex_2214a_8 : decode cJ2_checkIndex_2214a 8 = .ok (.return_, 1) := by decide +kernel
theorem dJ3_checkIndex_8e157_0 : decode cJ3_checkIndex_8e157 0 = .ok (.iload_n 0, 1) := by decide +kernel
theorem dJ3_checkIndex_8e157_1 : decode cJ3_checkIndex_8e157 1 = .ok (.ifCond .lt 8, 3) := by decide +kernel
theorem dJ3_checkIndex_8e157_4 : decode cJ3_checkIndex_8e157 4 = .ok (.iload_n 0, 1) := by decide +kernel
theorem dJ3_checkIndex_8e157_5 : decode cJ3_checkIndex_8e157 5 = .ok (.iload_n 1, 1) := by decide +kernel
theorem dJ3_checkIndex_8e157_6 : decode cJ3_checkIndex_8e157 6 = .ok (.if_icmp .lt 10, 3) := by decide +kernel
theorem dJ3_checkIndex_8e157_9 : decode cJ3_checkIndex_8e157 9 = .ok (.aload_n 2, 1) := by decide +kernel
theorem dJ3_checkIndex_8e157_10 : decode cJ3_checkIndex_8e157 10 = .ok (.iload_n 0, 1) := by decide +kernel
theorem dJ3_checkIndex_8e157_11 : decode cJ3_checkIndex_8e157 11 = .ok (.iload_n 1, 1) := by decide +kernel
theorem dJ3_checkIndex_8e157_12 : decode cJ3_checkIndex_8e157 12 = .ok (.invokestatic 95, 3) := by decide +kernel
theorem dJ3_checkIndex_8e157_15 : decode cJ3_checkIndex_8e157 15 = .ok (.athrow, 1) := by decide +kernel
theorem dJ3_checkIndex_8e157_16 : decode cJ3_checkIndex_8e157 16 = .ok (.iload_n 0, 1) := by decide +kernel
theorem dJ3_checkIndex_8e157_17 : decode cJ3_checkIndex_8e157 17 = .ok (.ireturn, 1) := by decide +kernel
end
section
/-! ===== the functional heap: addresses from a base on, each with a kind; ints and references by address and place ===== -/
abbrev jx_K : Type := Nat → Nat × Nat
abbrev jx_R : Type := Nat → Nat → Option Nat
abbrev jx_I : Type := Nat → Nat → Int32
/-- the fixed things of a run: class numbers, array classes (0 int, 1 char, 2 points, 3 states), the base, where the constants lie (0..4 the texts, 5..9 their bytes, 10, 11 the tables, 12 the script), the script's length and contents -/
abbrev jx_E : Type := va_G × (Nat → ClassId) × Nat × (Nat → Nat) × Nat × (Nat → Int32)
def jx_tys (E : jx_E) : List (ClassId × FieldType) := [(E.2.1 0, .int), (E.2.1 1, .char), (E.2.1 2, .object RX2), (E.2.1 3, .object RX4)]
def jx_lay : Nat → List Bool
  | 0 => [true, false, false, false, false, false]
  | 1 => [true, true, true, false]
  | 2 => [true, true, false, false, false, false, false, false, false, false, false]
  | 3 => [true, true, true, true, false, false, false, false]
  | 4 => [true, true, true, false, false, false, false, false, false]
  | 5 => [true, true, true, false, true, true]
  | 6 => [true, true, true, false, true, false, true, false, false, false, true]
  | _ => []
def jx_fs : List Bool → (Nat → Option Nat) → (Nat → Int32) → Nat → List Value
  | [], _, _, _ => []
  | true :: l, r, i, k => va_rf (r k) :: jx_fs l r i (k + 1)
  | false :: l, r, i, k => .int (i k) :: jx_fs l r i (k + 1)
def jx_cell (E : jx_E) (q : Nat × Nat) (r : Nat → Option Nat) (i : Nat → Int32) : va_E :=
  if q.1 = 7 then .inl (E.2.1 0, q.2, .inl i)
  else if q.1 = 8 then .inl (E.2.1 1, q.2, .inl i)
  else if q.1 = 9 then .inl (E.2.1 2, q.2, .inr (.inr (.inr (.inr r))))
  else if q.1 = 10 then .inl (E.2.1 3, q.2, .inr (.inr (.inr (.inr r))))
  else .inr (q.1, jx_fs (jx_lay q.1) r i 0)
def jx_pf (E : jx_E) (kd : jx_K) (R : jx_R) (I : jx_I) : Nat → va_E := fun a => jx_cell E (kd a) (R a) (I a)
def jx_A (E : jx_E) : Nat → Prop := fun q => E.2.2.1 ≤ q
def jx_Wd (E : jx_E) (n : Nat) (kd : jx_K) (R : jx_R) (I : jx_I) (H : Heap) : Prop :=
  (∀ a, (kd a).1 ≤ 10 → E.2.2.1 ≤ a ∧ a < E.2.2.1 + n) ∧ va_P E.1 vwCl ([] ++ va_pl (List.range' E.2.2.1 n) (jx_pf E kd R I)) H
def jx_up (I : jx_I) (a k : Nat) (x : Int32) : jx_I := fun b => if b = a then upd (I b) k x else I b
def jx_upR (R : jx_R) (a k : Nat) (x : Option Nat) : jx_R := fun b => if b = a then va_up (R b) k x else R b
theorem jx_fs_len : ∀ (l : List Bool) (r : Nat → Option Nat) (i : Nat → Int32) (k : Nat), (jx_fs l r i k).length = l.length := by
  intro l
  induction l with
  | nil => intro r i k; rfl
  | cons b l ih => intro r i k; cases b <;> simp [jx_fs, ih]
theorem jx_fs_r : ∀ (l : List Bool) (r : Nat → Option Nat) (i : Nat → Int32) (j k : Nat), l[k]? = some true → (jx_fs l r i j)[k]? = some (va_rf (r (j + k))) := by
  intro l
  induction l with
  | nil => intro r i j k h; simp at h
  | cons b l ih =>
    intro r i j k h
    cases k with
    | zero =>
      simp at h
      subst h
      simp [jx_fs]
    | succ k =>
      simp at h
      have := ih r i (j + 1) k h
      have e : j + 1 + k = j + (k + 1) := by omega
      cases b <;> simp [jx_fs, this, e]
theorem jx_fs_i : ∀ (l : List Bool) (r : Nat → Option Nat) (i : Nat → Int32) (j k : Nat), l[k]? = some false → (jx_fs l r i j)[k]? = some (.int (i (j + k))) := by
  intro l
  induction l with
  | nil => intro r i j k h; simp at h
  | cons b l ih =>
    intro r i j k h
    cases k with
    | zero =>
      simp at h
      subst h
      simp [jx_fs]
    | succ k =>
      simp at h
      have := ih r i (j + 1) k h
      have e : j + 1 + k = j + (k + 1) := by omega
      cases b <;> simp [jx_fs, this, e]
theorem jx_fs_ext : ∀ (l : List Bool) (r r' : Nat → Option Nat) (i i' : Nat → Int32) (j : Nat), (∀ k, j ≤ k → r' k = r k) → (∀ k, j ≤ k → i' k = i k) → jx_fs l r' i' j = jx_fs l r i j := by
  intro l
  induction l with
  | nil => intro r r' i i' j _ _; rfl
  | cons b l ih =>
    intro r r' i i' j h1 h2
    have e := ih r r' i i' (j + 1) (fun k hk => h1 k (by omega)) (fun k hk => h2 k (by omega))
    cases b
    · simp only [jx_fs, e, h2 j (Nat.le_refl j)]
    · simp only [jx_fs, e, h1 j (Nat.le_refl j)]
theorem jx_fs_setI : ∀ (l : List Bool) (r : Nat → Option Nat) (i : Nat → Int32) (j k : Nat) (x : Int32), l[k]? = some false → (jx_fs l r i j).set k (.int x) = jx_fs l r (upd i (j + k) x) j := by
  intro l
  induction l with
  | nil => intro r i j k x h; simp at h
  | cons b l ih =>
    intro r i j k x h
    cases k with
    | zero =>
      simp at h
      subst h
      simp only [jx_fs, List.set_cons_zero]
      rw [jx_fs_ext l r r i (upd i (j + 0) x) (j + 1) (fun _ _ => rfl) (fun k hk => by simp [upd]; omega)]
      simp [upd]
    | succ k =>
      simp at h
      have := ih r i (j + 1) k x h
      have e : j + 1 + k = j + (k + 1) := by omega
      rw [e] at this
      cases b
      · simp only [jx_fs, List.set_cons_succ, this]
        congr 2
        simp [upd]
      · simp only [jx_fs, List.set_cons_succ, this]
theorem jx_fs_setR : ∀ (l : List Bool) (r : Nat → Option Nat) (i : Nat → Int32) (j k : Nat) (x : Option Nat), l[k]? = some true → (jx_fs l r i j).set k (va_rf x) = jx_fs l (va_up r (j + k) x) i j := by
  intro l
  induction l with
  | nil => intro r i j k x h; simp at h
  | cons b l ih =>
    intro r i j k x h
    cases k with
    | zero =>
      simp at h
      subst h
      simp only [jx_fs, List.set_cons_zero]
      rw [jx_fs_ext l r (va_up r (j + 0) x) i i (j + 1) (fun k hk => by simp [va_up]; omega) (fun _ _ => rfl)]
      simp [va_up]
    | succ k =>
      simp at h
      have := ih r i (j + 1) k x h
      have e : j + 1 + k = j + (k + 1) := by omega
      rw [e] at this
      cases b
      · simp only [jx_fs, List.set_cons_succ, this]
      · simp only [jx_fs, List.set_cons_succ, this]
        congr 2
        simp [va_up]
theorem jx_range {B n a : Nat} : a ∈ List.range' B n ↔ B ≤ a ∧ a < B + n := by
  rw [List.mem_range'_1]
theorem jx_at {E : jx_E} {n : Nat} {kd : jx_K} {R : jx_R} {I : jx_I} {H : Heap} (h : jx_Wd E n kd R I H) {a : Nat} (ha : (kd a).1 ≤ 10) : ∃ k : Nat, ([] ++ va_pl (List.range' E.2.2.1 n) (jx_pf E kd R I))[k]? = some (a, jx_pf E kd R I a) :=
  va_pl_get (jx_range.mpr (h.1 a ha))
theorem jx_rg {B n i a : Nat} (h : (List.range' B n)[i]? = some a) : a = B + i := by
  obtain ⟨h1, h2⟩ := List.getElem?_eq_some_iff.mp h
  rw [List.getElem_range'] at h2
  omega
theorem jx_plg {B n i : Nat} {f : Nat → va_E} {q : Nat × va_E} (h : ([] ++ va_pl (List.range' B n) f)[i]? = some q) : q.1 = B + i := by
  simp only [List.nil_append, va_pl, List.getElem?_map] at h
  cases hb : (List.range' B n)[i]? with
  | none => rw [hb] at h; simp at h
  | some a =>
    rw [hb] at h
    simp at h
    rw [← h]
    exact jx_rg hb
theorem jx_D (E : jx_E) (n : Nat) (f : Nat → va_E) : va_D (jx_A E) ([] ++ va_pl (List.range' E.2.2.1 n) f) := by
  refine ⟨fun i j p q hi hj hpq => ?_, fun k q hk => ?_⟩
  · have h1 := jx_plg hi
    have h2 := jx_plg hj
    omega
  · have h1 := jx_plg hk
    show E.2.2.1 ≤ q.1
    omega
theorem jx_Wd_set {E : jx_E} {n : Nat} {kd : jx_K} {R : jx_R} {I : jx_I} {H H1 : Heap} (h : jx_Wd E n kd R I H) {a k : Nat} {e : va_E} (ha : (kd a).1 ≤ 10) (hk : ([] ++ va_pl (List.range' E.2.2.1 n) (jx_pf E kd R I))[k]? = some (a, jx_pf E kd R I a)) (hP : va_P E.1 vwCl (([] ++ va_pl (List.range' E.2.2.1 n) (jx_pf E kd R I)).set k (a, e)) H1) {R' : jx_R} {I' : jx_I} (he : ∀ b, va_up (jx_pf E kd R I) a e b = jx_pf E kd R' I' b) : jx_Wd E n kd R' I' H1 := by
  refine ⟨h.1, ?_⟩
  rw [va_pl_set (jx_D E n _) (jx_range.mpr (h.1 a ha)) hk] at hP
  rw [va_pl_congr he] at hP
  exact hP
theorem jx_pf_arrI {E : jx_E} {kd : jx_K} {R : jx_R} {I : jx_I} {a m : Nat} (h : kd a = (7, m)) : jx_pf E kd R I a = .inl (E.2.1 0, m, .inl (I a)) := by simp [jx_pf, jx_cell, h]
theorem jx_pf_arrC {E : jx_E} {kd : jx_K} {R : jx_R} {I : jx_I} {a m : Nat} (h : kd a = (8, m)) : jx_pf E kd R I a = .inl (E.2.1 1, m, .inl (I a)) := by simp [jx_pf, jx_cell, h]
theorem jx_pf_arrP {E : jx_E} {kd : jx_K} {R : jx_R} {I : jx_I} {a m : Nat} (h : kd a = (9, m)) : jx_pf E kd R I a = .inl (E.2.1 2, m, .inr (.inr (.inr (.inr (R a))))) := by simp [jx_pf, jx_cell, h]
theorem jx_pf_arrS {E : jx_E} {kd : jx_K} {R : jx_R} {I : jx_I} {a m : Nat} (h : kd a = (10, m)) : jx_pf E kd R I a = .inl (E.2.1 3, m, .inr (.inr (.inr (.inr (R a))))) := by simp [jx_pf, jx_cell, h]
theorem jx_pf_obj {E : jx_E} {kd : jx_K} {R : jx_R} {I : jx_I} {a c m : Nat} (hc : c < 7) (h : kd a = (c, m)) : jx_pf E kd R I a = .inr (c, jx_fs (jx_lay c) (R a) (I a) 0) := by
  have h1 : (kd a).1 = c := by rw [h]
  unfold jx_pf jx_cell
  rw [h1, if_neg (by omega), if_neg (by omega), if_neg (by omega), if_neg (by omega)]
theorem jx_pf_upI {E : jx_E} {kd : jx_K} {R : jx_R} {I : jx_I} {a k : Nat} {x : Int32} {e : va_E} (he : jx_cell E (kd a) (R a) (upd (I a) k x) = e) : ∀ b, va_up (jx_pf E kd R I) a e b = jx_pf E kd R (jx_up I a k x) b := by
  intro b
  by_cases hb : b = a
  · subst hb
    simp [va_up, jx_pf, jx_up, he]
  · simp [va_up, jx_pf, jx_up, hb]
theorem jx_pf_upR {E : jx_E} {kd : jx_K} {R : jx_R} {I : jx_I} {a k : Nat} {x : Option Nat} {e : va_E} (he : jx_cell E (kd a) (va_up (R a) k x) (I a) = e) : ∀ b, va_up (jx_pf E kd R I) a e b = jx_pf E kd (jx_upR R a k x) I b := by
  intro b
  by_cases hb : b = a
  · subst hb
    simp [va_up, jx_pf, jx_upR, he]
  · simp [va_up, jx_pf, jx_upR, hb]
/-- a new cell at the end -/
theorem jx_Wd_push {E : jx_E} {n : Nat} {kd : jx_K} {R : jx_R} {I : jx_I} {H H1 : Heap} (h : jx_Wd E n kd R I H) {q : Nat × Nat} {e : va_E} (hP : va_P E.1 vwCl (([] ++ va_pl (List.range' E.2.2.1 n) (jx_pf E kd R I)) ++ [(E.2.2.1 + n, e)]) H1) (he : jx_cell E q (fun _ => none) (fun _ => 0) = e) :
    jx_Wd E (n + 1) (va_up kd (E.2.2.1 + n) q) (va_up R (E.2.2.1 + n) (fun _ => none)) (va_up I (E.2.2.1 + n) (fun _ => 0)) H1 := by
  refine ⟨fun a ha => ?_, ?_⟩
  · by_cases hb : a = E.2.2.1 + n
    · omega
    · rw [va_up_ne _ _ hb] at ha
      have := h.1 a ha
      omega
  · rw [List.append_assoc, va_pl_push (by rw [jx_range]; omega), ← List.range'_1_concat] at hP
    refine (va_pl_congr (L := List.range' E.2.2.1 (n + 1)) (f := va_up (jx_pf E kd R I) (E.2.2.1 + n) e) (g := jx_pf E (va_up kd (E.2.2.1 + n) q) (va_up R (E.2.2.1 + n) (fun _ => none)) (va_up I (E.2.2.1 + n) (fun _ => 0))) (fun b => ?_)) ▸ hP
    by_cases hb : b = E.2.2.1 + n
    · subst hb
      simp [va_up, jx_pf, he]
    · simp [va_up, jx_pf, hb]
theorem jx_size {E : jx_E} {n cells slots : Nat} {kd : jx_K} {R : jx_R} {I : jx_I} {H : Heap} {p : Program} {l : Launch} {e : Env} {Rm : Room} {s T : State} {m : MethodId} {args : Array Value} {below : List Frame} {meth : Method} {c : Code} {locs : List Loc} (X : Stand p l e Rm s m args below meth c T locs cells slots) (hT : T.heap = H) (hB : E.2.2.1 ≤ s.heap.size) (hN : s.heap.size + cells = E.2.2.1 + n) (hW : jx_Wd E n kd R I H) : H.size = E.2.2.1 + n := by
  have h1 := X.same.2.1
  have h2 := X.same.2.2.1
  have e1 : (T.setVm s.vm).heap = H := hT
  rw [e1] at h1 h2
  by_cases h0 : n = 0
  · have : s.heap.size ≤ H.size := h1
    have : H.size ≤ s.heap.size + cells := h2
    have hB : n = 0 := h0
    omega
  · have := va_pl_lt hW.2 (a := E.2.2.1 + (n - 1)) (jx_range.mpr (by omega))
    omega
end
section
/-! ===== locals by their places ===== -/
def jx_asc : List (Option Value) → Nat → List (Nat × Value)
  | [], _ => []
  | none :: r, i => jx_asc r (i + 1)
  | some v :: r, i => (i, v) :: jx_asc r (i + 1)
theorem jx_asc_mem : ∀ (lv : List (Option Value)) (j : Nat) (q : Nat × Value), q ∈ jx_asc lv j ↔ ∃ k, q.1 = j + k ∧ lv[k]? = some (some q.2) := by
  intro lv
  induction lv with
  | nil => intro j q; simp [jx_asc]
  | cons o r ih =>
    intro j q
    cases o with
    | none =>
      simp only [jx_asc, ih]
      constructor
      · rintro ⟨k, h1, h2⟩
        exact ⟨k + 1, by omega, by simpa using h2⟩
      · rintro ⟨k, h1, h2⟩
        cases k with
        | zero => simp at h2
        | succ k => exact ⟨k, by omega, by simpa using h2⟩
    | some v =>
      simp only [jx_asc, List.mem_cons, ih]
      constructor
      · rintro (h | ⟨k, h1, h2⟩)
        · exact ⟨0, by rw [h]; rfl, by rw [h]; rfl⟩
        · exact ⟨k + 1, by omega, by simpa using h2⟩
      · rintro ⟨k, h1, h2⟩
        cases k with
        | zero =>
          simp at h2
          exact Or.inl (Prod.ext h1 h2.symm)
        | succ k => exact Or.inr ⟨k, by omega, by simpa using h2⟩
def jx_L (ls : Array Slot) (nL : Nat) (lv : List (Option Value)) : Prop := lv_has ls nL (jx_asc lv 0)
theorem jx_Lat {ls : Array Slot} {nL : Nat} {lv : List (Option Value)} (h : jx_L ls nL lv) {i : Nat} {v : Value} (hi : lv[i]? = some (some v)) : ls[i]? = some (.val v) :=
  h.2.2 (i, v) ((jx_asc_mem lv 0 (i, v)).mpr ⟨i, by simp, hi⟩)
def jx_k2 : Option Value → Option Value
  | some (.long _) => none
  | some (.double _) => none
  | o => o
def jx_st1 : List (Option Value) → Nat → Value → List (Option Value)
  | [], _, _ => []
  | _ :: r, 0, v => some v :: r
  | o :: r, 1, v => jx_k2 o :: jx_st1 r 0 v
  | o :: r, i + 2, v => o :: jx_st1 r (i + 1) v
def jx_st2 : List (Option Value) → Nat → Value → List (Option Value)
  | [], _, _ => []
  | _ :: [], 0, v => [some v]
  | _ :: _ :: r, 0, v => some v :: none :: r
  | o :: r, 1, v => jx_k2 o :: jx_st2 r 0 v
  | o :: r, i + 2, v => o :: jx_st2 r (i + 1) v
theorem jx_k2_spec {o : Option Value} {w : Value} (h : jx_k2 o = some w) : o = some w ∧ ¬ w.category = 2 := by
  cases o with
  | none => simp [jx_k2] at h
  | some z => cases z <;> simp [jx_k2] at h <;> subst h <;> simp [Value.category]
theorem jx_st1_get : ∀ (lv : List (Option Value)) (i : Nat) (v : Value) (k : Nat) (w : Value), (jx_st1 lv i v)[k]? = some (some w) → (k = i ∧ w = v) ∨ (k ≠ i ∧ lv[k]? = some (some w) ∧ ¬ (k + 1 = i ∧ w.category = 2)) := by
  intro lv
  induction lv with
  | nil => intro i v k w h; simp [jx_st1] at h
  | cons o r ih =>
    intro i v k w h
    match i, k with
    | 0, 0 => simp [jx_st1] at h; exact Or.inl ⟨rfl, h.symm⟩
    | 0, k + 1 => simp [jx_st1] at h; exact Or.inr ⟨by omega, by simpa using h, by omega⟩
    | 1, 0 =>
      simp [jx_st1] at h
      obtain ⟨h1, h2⟩ := jx_k2_spec h
      exact Or.inr ⟨by omega, by simp [h1], fun q => h2 q.2⟩
    | 1, k + 1 =>
      simp [jx_st1] at h
      rcases ih 0 v k w h with ⟨h1, h2⟩ | ⟨h1, h2, h3⟩
      · exact Or.inl ⟨by omega, h2⟩
      · exact Or.inr ⟨by omega, by simpa using h2, by omega⟩
    | i + 2, 0 =>
      simp [jx_st1] at h
      exact Or.inr ⟨by omega, by simp [h], by omega⟩
    | i + 2, k + 1 =>
      simp [jx_st1] at h
      rcases ih (i + 1) v k w h with ⟨h1, h2⟩ | ⟨h1, h2, h3⟩
      · exact Or.inl ⟨by omega, h2⟩
      · exact Or.inr ⟨by omega, by simpa using h2, fun q => h3 ⟨by omega, q.2⟩⟩
theorem jx_st2_get : ∀ (lv : List (Option Value)) (i : Nat) (v : Value) (k : Nat) (w : Value), (jx_st2 lv i v)[k]? = some (some w) → (k = i ∧ w = v) ∨ (k ≠ i ∧ k ≠ i + 1 ∧ lv[k]? = some (some w) ∧ ¬ (k + 1 = i ∧ w.category = 2)) := by
  intro lv
  induction lv with
  | nil => intro i v k w h; simp [jx_st2] at h
  | cons o r ih =>
    intro i v k w h
    match i, k with
    | 0, 0 =>
      cases r <;> (simp [jx_st2] at h; exact Or.inl ⟨rfl, h.symm⟩)
    | 0, k + 1 =>
      cases r with
      | nil => simp [jx_st2] at h
      | cons z r =>
        cases k with
        | zero => simp [jx_st2] at h
        | succ k => simp [jx_st2] at h; exact Or.inr ⟨by omega, by omega, by simpa using h, by omega⟩
    | 1, 0 =>
      simp [jx_st2] at h
      obtain ⟨h1, h2⟩ := jx_k2_spec h
      exact Or.inr ⟨by omega, by omega, by simp [h1], fun q => h2 q.2⟩
    | 1, k + 1 =>
      simp [jx_st2] at h
      rcases ih 0 v k w h with ⟨h1, h2⟩ | ⟨h1, h4, h2, h3⟩
      · exact Or.inl ⟨by omega, h2⟩
      · exact Or.inr ⟨by omega, by omega, by simpa using h2, by omega⟩
    | i + 2, 0 =>
      simp [jx_st2] at h
      exact Or.inr ⟨by omega, by omega, by simp [h], by omega⟩
    | i + 2, k + 1 =>
      simp [jx_st2] at h
      rcases ih (i + 1) v k w h with ⟨h1, h2⟩ | ⟨h1, h4, h2, h3⟩
      · exact Or.inl ⟨by omega, h2⟩
      · exact Or.inr ⟨by omega, by omega, by simpa using h2, fun q => h3 ⟨by omega, q.2⟩⟩
theorem jx_Lst1 {ls : Array Slot} {nL i : Nat} {lv : List (Option Value)} {v : Value} (h : lv_has ls nL ((i, v) :: (jx_asc lv 0).filter (fun q => !(q.1 == i) && !(q.1 + 1 == i && q.2.category == 2)))) : jx_L ls nL (jx_st1 lv i v) := by
  refine ⟨h.1, h.2.1, fun q hq => h.2.2 q ?_⟩
  obtain ⟨k, h1, h2⟩ := (jx_asc_mem _ 0 q).mp hq
  rw [Nat.zero_add] at h1
  rcases jx_st1_get lv i v k q.2 h2 with ⟨h3, h4⟩ | ⟨h3, h4, h5⟩
  · exact List.mem_cons.mpr (Or.inl (Prod.ext (h1.trans h3) h4))
  · refine List.mem_cons_of_mem _ (List.mem_filter.mpr ⟨(jx_asc_mem lv 0 q).mpr ⟨k, by omega, h4⟩, ?_⟩)
    rw [h1]
    by_cases hc : q.2.category = 2
    · have : ¬ k + 1 = i := fun z => h5 ⟨z, hc⟩
      simp [h3, hc, this]
    · simp [h3, hc]
theorem jx_Lst2 {ls : Array Slot} {nL i : Nat} {lv : List (Option Value)} {v : Value} (h : lv_has ls nL ((i, v) :: (jx_asc lv 0).filter (fun q => !(q.1 == i) && (!(q.1 == i + 1) && !(q.1 + 1 == i && q.2.category == 2))))) : jx_L ls nL (jx_st2 lv i v) := by
  refine ⟨h.1, h.2.1, fun q hq => h.2.2 q ?_⟩
  obtain ⟨k, h1, h2⟩ := (jx_asc_mem _ 0 q).mp hq
  rw [Nat.zero_add] at h1
  rcases jx_st2_get lv i v k q.2 h2 with ⟨h3, h4⟩ | ⟨h3, h6, h4, h5⟩
  · exact List.mem_cons.mpr (Or.inl (Prod.ext (h1.trans h3) h4))
  · refine List.mem_cons_of_mem _ (List.mem_filter.mpr ⟨(jx_asc_mem lv 0 q).mpr ⟨k, by omega, h4⟩, ?_⟩)
    rw [h1]
    by_cases hc : q.2.category = 2
    · have : ¬ k + 1 = i := fun z => h5 ⟨z, hc⟩
      simp [h3, h6, hc, this]
    · simp [h3, h6, hc]
/-- the locals with which a method begins -/
def jx_args : List Value → List (Option Value)
  | [] => []
  | v :: vs => if v.category = 2 then some v :: none :: jx_args vs else some v :: jx_args vs
theorem jx_args_asc : ∀ (vs : List Value) (j n : Nat), jx_asc (jx_args vs ++ List.replicate n none) j = lv_args j vs := by
  intro vs
  induction vs with
  | nil =>
    intro j n
    induction n generalizing j with
    | zero => rfl
    | succ n ih => simp only [jx_args, List.nil_append, List.replicate_succ, jx_asc]; exact ih (j + 1)
  | cons v vs ih =>
    intro j n
    by_cases hc : v.category = 2
    · simp only [jx_args, lv_args, if_pos hc, List.cons_append, jx_asc, ih]
    · simp only [jx_args, lv_args, if_neg hc, List.cons_append, jx_asc, ih]
/-! ===== the constants of a run, and that they stay ===== -/
def jx_len : List Nat := [4, 4, 7, 5, 6]
def jx_byt : List (List Int32) := [[115, 101, 116, 32], [97, 99, 107, 32], [115, 104, 101, 108, 118, 101, 32], [116, 105, 99, 107, 32], [115, 116, 97, 116, 101, 32]]
def jx_least : Nat → Int32 := fun j => [0, -10000, 0, 0, 0, 1, 0].getD j 0
def jx_most : Nat → Int32 := fun j => [1, 10000, 1000, 20, 20, 4, 15].getD j 0
def jx_nm : List (String × Nat × MethodName × String) := [(RX5, 9, yX3_init, RX5), (RX4, 19, yX0_init, RX5), (RX4, 26, yX1_init, RX5), (RX4, 31, yX2_init, RX5), (RX4, 61, yX5_isIn, RX5), (RX2, 61, yX5_isIn, RX5), (RX3, 90, yX5_isIn, RX5)]
def jx_En (E : jx_E) (s : State) (H : Heap) : Prop :=
  va_K E.1 vwCl (jx_tys E) s ∧ vk_S 5 jx_len jx_byt (fun i => E.2.2.2.1 i) (fun i => E.2.2.2.1 (5 + i)) (jx_A E) s H
  ∧ (vk_R RX3 80 "set " (E.2.2.2.1 0) s ∧ vk_R RX3 82 "ack " (E.2.2.2.1 1) s ∧ vk_R RX3 84 "shelve " (E.2.2.2.1 2) s ∧ vk_R RX3 86 "tick " (E.2.2.2.1 3) s ∧ vk_R RX3 88 "state " (E.2.2.2.1 4) s)
  ∧ (va_Z RX5 "LEAST_SETTING" "[I" (.ref (E.2.2.2.1 10)) (jx_A E) s H ∧ va_T .int (E.2.2.2.1 10) 7 (fun j => .int (jx_least j)) (jx_A E) s H)
  ∧ (va_Z RX5 "MOST_SETTING" "[I" (.ref (E.2.2.2.1 11)) (jx_A E) s H ∧ va_T .int (E.2.2.2.1 11) 7 (fun j => .int (jx_most j)) (jx_A E) s H)
  ∧ va_Z RJ0 "COMPACT_STRINGS" "Z" (.int 1) (jx_A E) s H ∧ (∃ v, va_Z RJ3 "SIOOBE_FORMATTER" "Ljava/util/function/BiFunction;" v (jx_A E) s H)
  ∧ (∀ q ∈ jx_nm, va_Nw (.methodLinkNest q.1 q.2.1 q.2.2.1 q.2.2.2) s) ∧ (va_Nw (.fieldLinkNest RX4 73 RX5 "LEAST_SETTING" "[I" RX5) s ∧ va_Nw (.fieldLinkNest RX4 77 RX5 "MOST_SETTING" "[I" RX5) s)
  ∧ va_AO RX2 s ∧ va_AO RX4 s ∧ (va_X (E.2.2.2.1 12) E.2.2.2.2.1 E.2.2.2.2.2 s H ∧ E.2.2.2.1 12 < H.size ∧ ¬ jx_A E (E.2.2.2.1 12))
theorem jx_En.next {E : jx_E} {s U : State} {H : Heap} {locs : List Loc} (h : jx_En E s s.heap) (hS : va_S (jx_A E) s.heap H locs) (hU : U.heap = H) (hW : s.WarmedH U.vm) : jx_En E U U.heap := by
  subst hU
  obtain ⟨h1, h2, ⟨a1, a2, a3, a4, a5⟩, ⟨b1, b2⟩, ⟨c1, c2⟩, d1, ⟨v, d2⟩, e1, ⟨e2, e3⟩, f1, f2, g1, g2, g3⟩ := h
  have hv := hW.alike
  have hq := hS.2.1
  exact ⟨h1.moved hv, (h2.moved hv).kept hq, ⟨a1.warm hW, a2.warm hW, a3.warm hW, a4.warm hW, a5.warm hW⟩, ⟨(b1.moved hv).kept hq, (b2.moved hv).kept hq⟩, ⟨(c1.moved hv).kept hq, (c2.moved hv).kept hq⟩, (d1.moved hv).kept hq, ⟨v, (d2.moved hv).kept hq⟩, fun q hq => (e1 q hq).warmM hW, ⟨e2.warmF hW, e3.warmF hW⟩, f1.moved hv, f2.moved hv, (g1.moved hv).kept (hq _ g2 g3), Nat.lt_of_lt_of_le g2 hS.1, g3⟩
/-! ===== the judgement ===== -/
def jx_isRet (cd : ByteArray) (pc : Nat) (ret : Option FieldType) (v : Option Value) : Prop :=
  (decode cd pc = .ok (.ireturn, 1) ∧ ∃ (x : Int32) (ty : FieldType), v = some (.int x) ∧ ret = some ty ∧ narrow ty (.int x) = .int x)
  ∨ (decode cd pc = .ok (.return_, 1) ∧ v = none ∧ ret = none)
  ∨ (decode cd pc = .ok (.areturn, 1) ∧ ∃ (a : Nat) (nm : String), v = some (.ref a) ∧ ret = some (.object nm))
  ∨ (decode cd pc = .ok (.lreturn, 1) ∧ ∃ x : Int64, v = some (.long x) ∧ ret = some .long)
  ∨ (decode cd pc = .ok (.freturn, 1) ∧ ∃ x : UInt32, v = some (.float x) ∧ ret = some .float)
abbrev jx_Q : Type := Option Value → Nat → jx_K → jx_R → jx_I → Prop
def jx_X (E : jx_E) (cd : ByteArray) (nL : Nat) (ret : Option FieldType) (own : String) (ini : Bool) (p : Program) (s : State) (m : MethodId) (args : Array Value) (meth : Method) (c : Code) : Prop :=
  p.tables.exec = Jvm.exec ∧ c.code = cd ∧ meth.sig.returnType = ret ∧ meth.locks = false ∧ c.maxLocals = nL ∧ s.vm.findClass own = some m.cls ∧ (ini = true → meth.name = "<init>") ∧ (∀ w ∈ jx_W, w.before args s = true) ∧ jx_En E s s.heap ∧ E.2.2.1 ≤ s.heap.size
def jx_J (E : jx_E) (l : Launch) (cd : ByteArray) (nL : Nat) (ret : Option FieldType) (own : String) (ini : Bool) (Rm : Room) (mc ms : Nat) (Q : jx_Q) (cells slots n : Nat) (kd : jx_K) (R : jx_R) (I : jx_I) (pc : Nat) (lv : List (Option Value)) (st : List Value) : Prop :=
  ∀ (p : Program) (e : Env) (s : State) (m : MethodId) (args : Array Value) (below : List Frame) (meth : Method) (c : Code) (Z : State → Prop), jx_X E cd nL ret own ini p s m args meth c →
    (∀ (v : Option Value) (n' : Nat) (kd' : jx_K) (R' : jx_R) (I' : jx_I) (H' : Heap) (locs' : List Loc) (pc' : Nat) (ls' : Array Slot), Q v n' kd' R' I' → s.heap.size + mc = E.2.2.1 + n' → jx_Wd E n' kd' R' I' H' → va_S (jx_A E) s.heap H' locs' → jx_isRet cd pc' ret v → W p l e Rm s m args below meth c H' locs' mc ms Z (F0 m pc' ls' v.toList)) →
    ∀ (H : Heap) (locs : List Loc) (ls : Array Slot), s.heap.size + cells = E.2.2.1 + n → jx_Wd E n kd R I H → va_S (jx_A E) s.heap H locs → jx_L ls nL lv → W p l e Rm s m args below meth c H locs cells slots Z (F0 m pc ls st)
def jx_Qc (E : jx_E) (mc : Nat) (Q : jx_Q) : Array Value → State → Outcome → State → Prop := fun _ st oc t =>
  (∃ (v : Option Value) (n' : Nat) (kd' : jx_K) (R' : jx_R) (I' : jx_I), oc = .returned v ∧ Q v n' kd' R' I' ∧ st.heap.size + mc = E.2.2.1 + n' ∧ jx_Wd E n' kd' R' I' t.heap) ∧ va_F (jx_A E) st t
/-- a method's contract at the start h = (n, kd, R, I): depth d, cells mc, slots ms -/
def jx_Ct (E : jx_E) (l : Launch) (y : MethodName) (cd : ByteArray) (nL : Nat) (ret : Option FieldType) (d mc ms n : Nat) (kd : jx_K) (R : jx_R) (I : jx_I) (as : List Value) (Q : jx_Q) : Prop :=
  Met l y (.code y cd nL ret :: jx_W) { frames := d, cells := mc, slots := ms, locals := 32 * d } (va_Pc as (fun U => jx_En E U U.heap ∧ U.heap.size = E.2.2.1 + n ∧ jx_Wd E n kd R I U.heap)) (jx_Qc E mc Q) mc ms (jx_A E)
theorem jx_Ct.ofJ {E : jx_E} {l : Launch} {y : MethodName} {cd : ByteArray} {nL : Nat} {ret : Option FieldType} {d mc ms n : Nat} {kd : jx_K} {R : jx_R} {I : jx_I} {as : List Value} {Q : jx_Q} (ini : Bool) (lv : List (Option Value)) (hy : plainName y.cls = true) (hi : (y.name == "<init>") = ini) (hn : (lg_sl as).length ≤ nL) (hlv : jx_args as ++ List.replicate (nL - (lg_sl as).length) none = lv)
    (k : jx_J E l cd nL ret y.cls ini { frames := d, cells := mc, slots := ms, locals := 32 * d } mc ms Q 0 0 n kd R I 0 lv []) : jx_Ct E l y cd nL ret d mc ms n kd R I as Q := by
  subst hlv
  refine Met.ofW (cc := cd) (maxL := nL) (ret := ret) hy rfl ?_
  intro p e s m args below meth c s₁ B hml hv
  obtain ⟨rfl, hE, hB, hW⟩ := hv
  have hts := atoms_spec (ws := .code y cd nL ret :: jx_W) B.pre
  have hlocks := B.notSynchronized
  have hl := lv_entry as (n := nL) hn
  rw [lg_entry_eq]
  refine k p e s m _ below meth c _ ⟨B.exec, B.bytes, B.returns, hlocks, hml, findClass_of_methodNamed B.named, fun h => ?_, fun w h => hts w (List.mem_cons_of_mem _ h), hE, by omega⟩ ?_ s.heap [] _ hB hW va_S.rf ?_
  · rw [(name_of_methodNamed B.named B.method).1]
    rw [h] at hi
    simpa using hi
  · intro v n' kd' R' I' H' locs' pc' ls' hQ hN' hW' hS hr
    rcases hr with ⟨hd, x, ty, rfl, hrt, hnr⟩ | ⟨hd, rfl, hrt⟩ | ⟨hd, a, nm, rfl, hrt⟩ | ⟨hd, x, rfl, hrt⟩ | ⟨hd, x, rfl, hrt⟩
    · exact W.zret (ty := ty) B.exec B.bytes (B.returns.trans hrt) hnr (fun t ht _ => ⟨⟨_, n', kd', R', I', rfl, hQ, hN', by rw [ht]; exact hW'⟩, hS.F ht⟩) hS.2.2 hd
    · exact W.vret B.exec B.bytes (B.returns.trans hrt) (fun t ht _ => ⟨⟨_, n', kd', R', I', rfl, hQ, hN', by rw [ht]; exact hW'⟩, hS.F ht⟩) hS.2.2 hd
    · exact W.aret B.exec B.bytes (B.returns.trans hrt) (Or.inl ⟨nm, rfl⟩) (Or.inr ⟨a, rfl⟩) (fun t ht _ => ⟨⟨_, n', kd', R', I', rfl, hQ, hN', by rw [ht]; exact hW'⟩, hS.F ht⟩) hS.2.2 hd
    · exact W.lret B.exec B.bytes (B.returns.trans hrt) (fun t ht _ => ⟨⟨_, n', kd', R', I', rfl, hQ, hN', by rw [ht]; exact hW'⟩, hS.F ht⟩) hS.2.2 hd
    · exact W.fret B.exec B.bytes (B.returns.trans hrt) (fun t ht _ => ⟨⟨_, n', kd', R', I', rfl, hQ, hN', by rw [ht]; exact hW'⟩, hS.F ht⟩) hS.2.2 hd
  · show lv_has _ nL (jx_asc _ 0)
    rw [jx_args_asc]
    exact hl
end
section
section JR
variable {E : jx_E} {l : Launch} {cd : ByteArray} {nL : Nat} {ret : Option FieldType} {own : String} {ini : Bool} {Rm : Room} {mc ms : Nat} {Q : jx_Q} {cells slots n : Nat} {kd : jx_K} {R : jx_R} {I : jx_I} {pc pc' : Nat} {lv : List (Option Value)} {st : List Value}
theorem j_iconst {i : Int} {v : Int32} (hd : decode cd pc = .ok (.iconst i, 1)) (hp : pc + 1 = pc') (hv : Int32.ofInt i = v) (k : jx_J E l cd nL ret own ini Rm mc ms Q cells slots n kd R I pc' lv (.int v :: st)) : jx_J E l cd nL ret own ini Rm mc ms Q cells slots n kd R I pc lv st := by
  subst hp
  intro p e s m args below meth c Z X hZ H locs ls hN hW hS hl
  exact lv_iconst X.1 X.2.1 hd hv (k p e s m args below meth c Z X hZ H locs ls hN hW hS hl)
theorem j_bipush {i : Int} {v : Int32} (hd : decode cd pc = .ok (.bipush i, 2)) (hp : pc + 2 = pc') (hv : (Int8.ofInt i).toInt32 = v) (k : jx_J E l cd nL ret own ini Rm mc ms Q cells slots n kd R I pc' lv (.int v :: st)) : jx_J E l cd nL ret own ini Rm mc ms Q cells slots n kd R I pc lv st := by
  subst hp
  intro p e s m args below meth c Z X hZ H locs ls hN hW hS hl
  exact lv_bipush X.1 X.2.1 hd hv (k p e s m args below meth c Z X hZ H locs ls hN hW hS hl)
theorem j_sipush {i : Int} {v : Int32} (hd : decode cd pc = .ok (.sipush i, 3)) (hp : pc + 3 = pc') (hv : (Int16.ofInt i).toInt32 = v) (k : jx_J E l cd nL ret own ini Rm mc ms Q cells slots n kd R I pc' lv (.int v :: st)) : jx_J E l cd nL ret own ini Rm mc ms Q cells slots n kd R I pc lv st := by
  subst hp
  intro p e s m args below meth c Z X hZ H locs ls hN hW hS hl
  exact lv_sipush X.1 X.2.1 hd hv (k p e s m args below meth c Z X hZ H locs ls hN hW hS hl)
theorem j_iadd {x y : Int32} (hd : decode cd pc = .ok (.iadd, 1)) (hp : pc + 1 = pc')  (k : jx_J E l cd nL ret own ini Rm mc ms Q cells slots n kd R I pc' lv (.int (x + y) :: st)) : jx_J E l cd nL ret own ini Rm mc ms Q cells slots n kd R I pc lv (.int y :: .int x :: st) := by
  subst hp
  intro p e s m args below meth c Z X hZ H locs ls hN hW hS hl
  exact lv_iadd X.1 X.2.1 hd  (k p e s m args below meth c Z X hZ H locs ls hN hW hS hl)
theorem j_isub {x y : Int32} (hd : decode cd pc = .ok (.isub, 1)) (hp : pc + 1 = pc')  (k : jx_J E l cd nL ret own ini Rm mc ms Q cells slots n kd R I pc' lv (.int (x - y) :: st)) : jx_J E l cd nL ret own ini Rm mc ms Q cells slots n kd R I pc lv (.int y :: .int x :: st) := by
  subst hp
  intro p e s m args below meth c Z X hZ H locs ls hN hW hS hl
  exact lv_isub X.1 X.2.1 hd  (k p e s m args below meth c Z X hZ H locs ls hN hW hS hl)
theorem j_imul {x y : Int32} (hd : decode cd pc = .ok (.imul, 1)) (hp : pc + 1 = pc')  (k : jx_J E l cd nL ret own ini Rm mc ms Q cells slots n kd R I pc' lv (.int (x * y) :: st)) : jx_J E l cd nL ret own ini Rm mc ms Q cells slots n kd R I pc lv (.int y :: .int x :: st) := by
  subst hp
  intro p e s m args below meth c Z X hZ H locs ls hN hW hS hl
  exact lv_imul X.1 X.2.1 hd  (k p e s m args below meth c Z X hZ H locs ls hN hW hS hl)
theorem j_iand {x y : Int32} (hd : decode cd pc = .ok (.iand, 1)) (hp : pc + 1 = pc')  (k : jx_J E l cd nL ret own ini Rm mc ms Q cells slots n kd R I pc' lv (.int (x &&& y) :: st)) : jx_J E l cd nL ret own ini Rm mc ms Q cells slots n kd R I pc lv (.int y :: .int x :: st) := by
  subst hp
  intro p e s m args below meth c Z X hZ H locs ls hN hW hS hl
  exact lv_iand X.1 X.2.1 hd  (k p e s m args below meth c Z X hZ H locs ls hN hW hS hl)
theorem j_ior {x y : Int32} (hd : decode cd pc = .ok (.ior, 1)) (hp : pc + 1 = pc')  (k : jx_J E l cd nL ret own ini Rm mc ms Q cells slots n kd R I pc' lv (.int (x ||| y) :: st)) : jx_J E l cd nL ret own ini Rm mc ms Q cells slots n kd R I pc lv (.int y :: .int x :: st) := by
  subst hp
  intro p e s m args below meth c Z X hZ H locs ls hN hW hS hl
  exact lv_ior X.1 X.2.1 hd  (k p e s m args below meth c Z X hZ H locs ls hN hW hS hl)
theorem j_ixor {x y : Int32} (hd : decode cd pc = .ok (.ixor, 1)) (hp : pc + 1 = pc')  (k : jx_J E l cd nL ret own ini Rm mc ms Q cells slots n kd R I pc' lv (.int (x ^^^ y) :: st)) : jx_J E l cd nL ret own ini Rm mc ms Q cells slots n kd R I pc lv (.int y :: .int x :: st) := by
  subst hp
  intro p e s m args below meth c Z X hZ H locs ls hN hW hS hl
  exact lv_ixor X.1 X.2.1 hd  (k p e s m args below meth c Z X hZ H locs ls hN hW hS hl)
theorem j_irem {x y : Int32} (hd : decode cd pc = .ok (.irem, 1)) (hp : pc + 1 = pc') (hne : ¬ y = 0) (k : jx_J E l cd nL ret own ini Rm mc ms Q cells slots n kd R I pc' lv (.int (x - x / y * y) :: st)) : jx_J E l cd nL ret own ini Rm mc ms Q cells slots n kd R I pc lv (.int y :: .int x :: st) := by
  subst hp
  intro p e s m args below meth c Z X hZ H locs ls hN hW hS hl
  exact lv_irem X.1 X.2.1 hd hne (k p e s m args below meth c Z X hZ H locs ls hN hW hS hl)
theorem j_idiv {x y : Int32} (hd : decode cd pc = .ok (.idiv, 1)) (hp : pc + 1 = pc') (hne : ¬ y = 0) (k : jx_J E l cd nL ret own ini Rm mc ms Q cells slots n kd R I pc' lv (.int (x / y) :: st)) : jx_J E l cd nL ret own ini Rm mc ms Q cells slots n kd R I pc lv (.int y :: .int x :: st) := by
  subst hp
  intro p e s m args below meth c Z X hZ H locs ls hN hW hS hl
  exact lv_idiv X.1 X.2.1 hd hne (k p e s m args below meth c Z X hZ H locs ls hN hW hS hl)
theorem j_ineg {x : Int32} (hd : decode cd pc = .ok (.ineg, 1)) (hp : pc + 1 = pc')  (k : jx_J E l cd nL ret own ini Rm mc ms Q cells slots n kd R I pc' lv (.int (-x) :: st)) : jx_J E l cd nL ret own ini Rm mc ms Q cells slots n kd R I pc lv (.int x :: st) := by
  subst hp
  intro p e s m args below meth c Z X hZ H locs ls hN hW hS hl
  exact lv_ineg X.1 X.2.1 hd  (k p e s m args below meth c Z X hZ H locs ls hN hW hS hl)
theorem j_ladd {x y : Int64} (hd : decode cd pc = .ok (.ladd, 1)) (hp : pc + 1 = pc')  (k : jx_J E l cd nL ret own ini Rm mc ms Q cells slots n kd R I pc' lv (.long (x + y) :: st)) : jx_J E l cd nL ret own ini Rm mc ms Q cells slots n kd R I pc lv (.long y :: .long x :: st) := by
  subst hp
  intro p e s m args below meth c Z X hZ H locs ls hN hW hS hl
  exact lv_ladd X.1 X.2.1 hd  (k p e s m args below meth c Z X hZ H locs ls hN hW hS hl)
theorem j_lmul {x y : Int64} (hd : decode cd pc = .ok (.lmul, 1)) (hp : pc + 1 = pc')  (k : jx_J E l cd nL ret own ini Rm mc ms Q cells slots n kd R I pc' lv (.long (x * y) :: st)) : jx_J E l cd nL ret own ini Rm mc ms Q cells slots n kd R I pc lv (.long y :: .long x :: st) := by
  subst hp
  intro p e s m args below meth c Z X hZ H locs ls hN hW hS hl
  exact lv_lmul X.1 X.2.1 hd  (k p e s m args below meth c Z X hZ H locs ls hN hW hS hl)
theorem j_i2l {x : Int32} (hd : decode cd pc = .ok (.i2l, 1)) (hp : pc + 1 = pc')  (k : jx_J E l cd nL ret own ini Rm mc ms Q cells slots n kd R I pc' lv (.long x.toInt64 :: st)) : jx_J E l cd nL ret own ini Rm mc ms Q cells slots n kd R I pc lv (.int x :: st) := by
  subst hp
  intro p e s m args below meth c Z X hZ H locs ls hN hW hS hl
  exact lv_i2l X.1 X.2.1 hd rfl (k p e s m args below meth c Z X hZ H locs ls hN hW hS hl)
theorem j_i2c {x : Int32} (hd : decode cd pc = .ok (.i2c, 1)) (hp : pc + 1 = pc')  (k : jx_J E l cd nL ret own ini Rm mc ms Q cells slots n kd R I pc' lv (.int (x.toUInt32 % 65536).toInt32 :: st)) : jx_J E l cd nL ret own ini Rm mc ms Q cells slots n kd R I pc lv (.int x :: st) := by
  subst hp
  intro p e s m args below meth c Z X hZ H locs ls hN hW hS hl
  exact lv_i2c X.1 X.2.1 hd rfl (k p e s m args below meth c Z X hZ H locs ls hN hW hS hl)
theorem j_i2f {x : Int32} (hd : decode cd pc = .ok (.i2f, 1)) (hp : pc + 1 = pc')  (k : jx_J E l cd nL ret own ini Rm mc ms Q cells slots n kd R I pc' lv (.float (FP.i2f x) :: st)) : jx_J E l cd nL ret own ini Rm mc ms Q cells slots n kd R I pc lv (.int x :: st) := by
  subst hp
  intro p e s m args below meth c Z X hZ H locs ls hN hW hS hl
  exact lv_i2f X.1 X.2.1 hd  (k p e s m args below meth c Z X hZ H locs ls hN hW hS hl)
theorem j_fconst0  (hd : decode cd pc = .ok (.fconst 0, 1)) (hp : pc + 1 = pc')  (k : jx_J E l cd nL ret own ini Rm mc ms Q cells slots n kd R I pc' lv (.float 0 :: st)) : jx_J E l cd nL ret own ini Rm mc ms Q cells slots n kd R I pc lv st := by
  subst hp
  intro p e s m args below meth c Z X hZ H locs ls hN hW hS hl
  exact lv_fconst0 X.1 X.2.1 hd  (k p e s m args below meth c Z X hZ H locs ls hN hW hS hl)
theorem j_fdiv {x y : UInt32} (hd : decode cd pc = .ok (.fdiv, 1)) (hp : pc + 1 = pc') (hne : vf_n32 (FP.fdiv x y)) (k : jx_J E l cd nL ret own ini Rm mc ms Q cells slots n kd R I pc' lv (.float (FP.fdiv x y) :: st)) : jx_J E l cd nL ret own ini Rm mc ms Q cells slots n kd R I pc lv (.float y :: .float x :: st) := by
  subst hp
  intro p e s m args below meth c Z X hZ H locs ls hN hW hS hl
  exact lv_fdiv X.1 X.2.1 hd hne (k p e s m args below meth c Z X hZ H locs ls hN hW hS hl)
theorem j_ishr {x y : Int32} (hd : decode cd pc = .ok (.ishr, 1)) (hp : pc + 1 = pc')  (k : jx_J E l cd nL ret own ini Rm mc ms Q cells slots n kd R I pc' lv (.int (x >>> (y &&& 31)) :: st)) : jx_J E l cd nL ret own ini Rm mc ms Q cells slots n kd R I pc lv (.int y :: .int x :: st) := by
  subst hp
  intro p e s m args below meth c Z X hZ H locs ls hN hW hS hl
  exact lv_ishr X.1 X.2.1 hd  (k p e s m args below meth c Z X hZ H locs ls hN hW hS hl)
theorem j_ishl {x y : Int32} (hd : decode cd pc = .ok (.ishl, 1)) (hp : pc + 1 = pc')  (k : jx_J E l cd nL ret own ini Rm mc ms Q cells slots n kd R I pc' lv (.int (x <<< (y &&& 31)) :: st)) : jx_J E l cd nL ret own ini Rm mc ms Q cells slots n kd R I pc lv (.int y :: .int x :: st) := by
  subst hp
  intro p e s m args below meth c Z X hZ H locs ls hN hW hS hl
  exact lv_ishl X.1 X.2.1 hd  (k p e s m args below meth c Z X hZ H locs ls hN hW hS hl)
theorem j_dup {va : Value} (hd : decode cd pc = .ok (.dup, 1)) (hp : pc + 1 = pc') (hv : va.category = 1) (k : jx_J E l cd nL ret own ini Rm mc ms Q cells slots n kd R I pc' lv (va :: va :: st)) : jx_J E l cd nL ret own ini Rm mc ms Q cells slots n kd R I pc lv (va :: st) := by
  subst hp
  intro p e s m args below meth c Z X hZ H locs ls hN hW hS hl
  exact lv_dup X.1 X.2.1 hd hv (k p e s m args below meth c Z X hZ H locs ls hN hW hS hl)
theorem j_pop {va : Value} (hd : decode cd pc = .ok (.pop, 1)) (hp : pc + 1 = pc') (hv : va.category = 1) (k : jx_J E l cd nL ret own ini Rm mc ms Q cells slots n kd R I pc' lv st) : jx_J E l cd nL ret own ini Rm mc ms Q cells slots n kd R I pc lv (va :: st) := by
  subst hp
  intro p e s m args below meth c Z X hZ H locs ls hN hW hS hl
  exact lv_pop X.1 X.2.1 hd hv (k p e s m args below meth c Z X hZ H locs ls hN hW hS hl)
theorem j_dup2 {va vb : Value} (hd : decode cd pc = .ok (.dup2, 1)) (hp : pc + 1 = pc') (hv : va.category = 1) (hw : vb.category = 1) (k : jx_J E l cd nL ret own ini Rm mc ms Q cells slots n kd R I pc' lv (va :: vb :: va :: vb :: st)) : jx_J E l cd nL ret own ini Rm mc ms Q cells slots n kd R I pc lv (va :: vb :: st) := by
  subst hp
  intro p e s m args below meth c Z X hZ H locs ls hN hW hS hl
  exact lv_dup2_11 X.1 X.2.1 hd hv hw (k p e s m args below meth c Z X hZ H locs ls hN hW hS hl)
theorem j_lcmp {x y : Int64} (hd : decode cd pc = .ok (.lcmp, 1)) (hp : pc + 1 = pc') (k : jx_J E l cd nL ret own ini Rm mc ms Q cells slots n kd R I pc' lv (.int (lg_cmp x y) :: st)) : jx_J E l cd nL ret own ini Rm mc ms Q cells slots n kd R I pc lv (.long y :: .long x :: st) := by
  subst hp
  intro p e s m args below meth c Z X hZ H locs ls hN hW hS hl
  exact W.lcmp X.1 X.2.1 hd (k p e s m args below meth c Z X hZ H locs ls hN hW hS hl)
theorem j_ldc2 {ix : Nat} {v : Int64} (hk : Cond.constantLong own ix v ∈ jx_W) (hd : decode cd pc = .ok (.ldc2_w ix, 3)) (hp : pc + 3 = pc') (k : jx_J E l cd nL ret own ini Rm mc ms Q cells slots n kd R I pc' lv (.long v :: st)) : jx_J E l cd nL ret own ini Rm mc ms Q cells slots n kd R I pc lv st := by
  subst hp
  intro p e s m args below meth c Z X hZ H locs ls hN hW hS hl
  exact lv_ldc2 X.1 X.2.1 X.2.2.2.2.2.1 (X.2.2.2.2.2.2.2.1 _ hk) hd (k p e s m args below meth c Z X hZ H locs ls hN hW hS hl)
theorem j_iload_n {q : Fin 4} {x : Int32} (hd : decode cd pc = .ok (.iload_n q, 1)) (hp : pc + 1 = pc') (hi : lv[(q : Nat)]? = some (some (.int x))) (k : jx_J E l cd nL ret own ini Rm mc ms Q cells slots n kd R I pc' lv (.int x :: st)) : jx_J E l cd nL ret own ini Rm mc ms Q cells slots n kd R I pc lv st := by
  subst hp
  intro p e s m args below meth c Z X hZ H locs ls hN hW hS hl
  exact lv_iload_n X.1 X.2.1 hd rfl (jx_Lat hl hi) (k p e s m args below meth c Z X hZ H locs ls hN hW hS hl)
theorem j_iload {i : Nat} {x : Int32} (hd : decode cd pc = .ok (.iload i, 2)) (hp : pc + 2 = pc') (hi : lv[i]? = some (some (.int x))) (k : jx_J E l cd nL ret own ini Rm mc ms Q cells slots n kd R I pc' lv (.int x :: st)) : jx_J E l cd nL ret own ini Rm mc ms Q cells slots n kd R I pc lv st := by
  subst hp
  intro p e s m args below meth c Z X hZ H locs ls hN hW hS hl
  exact lv_iload X.1 X.2.1 hd (jx_Lat hl hi) (k p e s m args below meth c Z X hZ H locs ls hN hW hS hl)
theorem j_istore_n {q : Fin 4} {x : Int32} {lv' : List (Option Value)} (hd : decode cd pc = .ok (.istore_n q, 1)) (hp : pc + 1 = pc') (hn : (q : Nat) < nL) (hi : jx_st1 lv q (.int x) = lv') (k : jx_J E l cd nL ret own ini Rm mc ms Q cells slots n kd R I pc' lv' st) : jx_J E l cd nL ret own ini Rm mc ms Q cells slots n kd R I pc lv (.int x :: st) := by
  subst hp; subst hi
  intro p e s m args below meth c Z X hZ H locs ls hN hW hS hl
  exact lv_istore_n X.1 X.2.1 hd rfl hl hn rfl (fun ls' hl' => k p e s m args below meth c Z X hZ H locs ls' hN hW hS (jx_Lst1 hl'))
theorem j_istore {i : Nat} {x : Int32} {lv' : List (Option Value)} (hd : decode cd pc = .ok (.istore i, 2)) (hp : pc + 2 = pc') (hn : i < nL) (hi : jx_st1 lv i (.int x) = lv') (k : jx_J E l cd nL ret own ini Rm mc ms Q cells slots n kd R I pc' lv' st) : jx_J E l cd nL ret own ini Rm mc ms Q cells slots n kd R I pc lv (.int x :: st) := by
  subst hp; subst hi
  intro p e s m args below meth c Z X hZ H locs ls hN hW hS hl
  exact lv_istore X.1 X.2.1 hd hl hn rfl (fun ls' hl' => k p e s m args below meth c Z X hZ H locs ls' hN hW hS (jx_Lst1 hl'))
theorem j_aload_n {q : Fin 4} {x : Nat} (hd : decode cd pc = .ok (.aload_n q, 1)) (hp : pc + 1 = pc') (hi : lv[(q : Nat)]? = some (some (.ref x))) (k : jx_J E l cd nL ret own ini Rm mc ms Q cells slots n kd R I pc' lv (.ref x :: st)) : jx_J E l cd nL ret own ini Rm mc ms Q cells slots n kd R I pc lv st := by
  subst hp
  intro p e s m args below meth c Z X hZ H locs ls hN hW hS hl
  exact lv_aload_n X.1 X.2.1 hd rfl (jx_Lat hl hi) (k p e s m args below meth c Z X hZ H locs ls hN hW hS hl)
theorem j_aload {i : Nat} {x : Nat} (hd : decode cd pc = .ok (.aload i, 2)) (hp : pc + 2 = pc') (hi : lv[i]? = some (some (.ref x))) (k : jx_J E l cd nL ret own ini Rm mc ms Q cells slots n kd R I pc' lv (.ref x :: st)) : jx_J E l cd nL ret own ini Rm mc ms Q cells slots n kd R I pc lv st := by
  subst hp
  intro p e s m args below meth c Z X hZ H locs ls hN hW hS hl
  exact lv_aload X.1 X.2.1 hd (jx_Lat hl hi) (k p e s m args below meth c Z X hZ H locs ls hN hW hS hl)
theorem j_astore_n {q : Fin 4} {x : Nat} {lv' : List (Option Value)} (hd : decode cd pc = .ok (.astore_n q, 1)) (hp : pc + 1 = pc') (hn : (q : Nat) < nL) (hi : jx_st1 lv q (.ref x) = lv') (k : jx_J E l cd nL ret own ini Rm mc ms Q cells slots n kd R I pc' lv' st) : jx_J E l cd nL ret own ini Rm mc ms Q cells slots n kd R I pc lv (.ref x :: st) := by
  subst hp; subst hi
  intro p e s m args below meth c Z X hZ H locs ls hN hW hS hl
  exact lv_astore_n X.1 X.2.1 hd rfl hl hn rfl (fun ls' hl' => k p e s m args below meth c Z X hZ H locs ls' hN hW hS (jx_Lst1 hl'))
theorem j_astore {i : Nat} {x : Nat} {lv' : List (Option Value)} (hd : decode cd pc = .ok (.astore i, 2)) (hp : pc + 2 = pc') (hn : i < nL) (hi : jx_st1 lv i (.ref x) = lv') (k : jx_J E l cd nL ret own ini Rm mc ms Q cells slots n kd R I pc' lv' st) : jx_J E l cd nL ret own ini Rm mc ms Q cells slots n kd R I pc lv (.ref x :: st) := by
  subst hp; subst hi
  intro p e s m args below meth c Z X hZ H locs ls hN hW hS hl
  exact lv_astore X.1 X.2.1 hd hl hn rfl (fun ls' hl' => k p e s m args below meth c Z X hZ H locs ls' hN hW hS (jx_Lst1 hl'))
theorem j_lload_n {q : Fin 4} {x : Int64} (hd : decode cd pc = .ok (.lload_n q, 1)) (hp : pc + 1 = pc') (hi : lv[(q : Nat)]? = some (some (.long x))) (k : jx_J E l cd nL ret own ini Rm mc ms Q cells slots n kd R I pc' lv (.long x :: st)) : jx_J E l cd nL ret own ini Rm mc ms Q cells slots n kd R I pc lv st := by
  subst hp
  intro p e s m args below meth c Z X hZ H locs ls hN hW hS hl
  exact lv_lload_n X.1 X.2.1 hd rfl (jx_Lat hl hi) (k p e s m args below meth c Z X hZ H locs ls hN hW hS hl)
theorem j_lload {i : Nat} {x : Int64} (hd : decode cd pc = .ok (.lload i, 2)) (hp : pc + 2 = pc') (hi : lv[i]? = some (some (.long x))) (k : jx_J E l cd nL ret own ini Rm mc ms Q cells slots n kd R I pc' lv (.long x :: st)) : jx_J E l cd nL ret own ini Rm mc ms Q cells slots n kd R I pc lv st := by
  subst hp
  intro p e s m args below meth c Z X hZ H locs ls hN hW hS hl
  exact lv_lload X.1 X.2.1 hd (jx_Lat hl hi) (k p e s m args below meth c Z X hZ H locs ls hN hW hS hl)
theorem j_lstore_n {q : Fin 4} {x : Int64} {lv' : List (Option Value)} (hd : decode cd pc = .ok (.lstore_n q, 1)) (hp : pc + 1 = pc') (hn : (q : Nat) + 1 < nL) (hi : jx_st2 lv q (.long x) = lv') (k : jx_J E l cd nL ret own ini Rm mc ms Q cells slots n kd R I pc' lv' st) : jx_J E l cd nL ret own ini Rm mc ms Q cells slots n kd R I pc lv (.long x :: st) := by
  subst hp; subst hi
  intro p e s m args below meth c Z X hZ H locs ls hN hW hS hl
  exact lv_lstore_n X.1 X.2.1 hd rfl hl hn rfl (fun ls' hl' => k p e s m args below meth c Z X hZ H locs ls' hN hW hS (jx_Lst2 hl'))
theorem j_lstore {i : Nat} {x : Int64} {lv' : List (Option Value)} (hd : decode cd pc = .ok (.lstore i, 2)) (hp : pc + 2 = pc') (hn : i + 1 < nL) (hi : jx_st2 lv i (.long x) = lv') (k : jx_J E l cd nL ret own ini Rm mc ms Q cells slots n kd R I pc' lv' st) : jx_J E l cd nL ret own ini Rm mc ms Q cells slots n kd R I pc lv (.long x :: st) := by
  subst hp; subst hi
  intro p e s m args below meth c Z X hZ H locs ls hN hW hS hl
  exact lv_lstore X.1 X.2.1 hd hl hn rfl (fun ls' hl' => k p e s m args below meth c Z X hZ H locs ls' hN hW hS (jx_Lst2 hl'))
theorem j_iinc {i : Nat} {d : Int} {x v : Int32} {lv' : List (Option Value)} (hd : decode cd pc = .ok (.iinc i d, 3)) (hp : pc + 3 = pc') (hx : lv[i]? = some (some (.int x))) (hv : x + Int32.ofInt d = v) (hn : i < nL) (hi : jx_st1 lv i (.int v) = lv') (k : jx_J E l cd nL ret own ini Rm mc ms Q cells slots n kd R I pc' lv' st) : jx_J E l cd nL ret own ini Rm mc ms Q cells slots n kd R I pc lv st := by
  subst hp; subst hi
  intro p e s m args below meth c Z X hZ H locs ls hN hW hS hl
  obtain ⟨k0, hk0⟩ := List.getElem?_of_mem ((jx_asc_mem lv 0 (i, .int x)).mpr ⟨i, by simp, hx⟩)
  exact lv_iinc X.1 X.2.1 hd hl hk0 hv hn rfl (fun ls' hl' => k p e s m args below meth c Z X hZ H locs ls' hN hW hS (jx_Lst1 hl'))
theorem j_if_eq {x : Int32} {off : Int} {tgt : Nat} (hd : decode cd pc = .ok (.ifCond .eq off, 3)) (hp : pc + 3 = pc') (ht : (pc : Int) + off = (tgt : Int)) (kt : x = 0 → jx_J E l cd nL ret own ini Rm mc ms Q cells slots n kd R I tgt lv st) (kf : ¬ x = 0 → jx_J E l cd nL ret own ini Rm mc ms Q cells slots n kd R I pc' lv st) : jx_J E l cd nL ret own ini Rm mc ms Q cells slots n kd R I pc lv (.int x :: st) := by
  subst hp
  intro p e s m args below meth c Z X hZ H locs ls hN hW hS hl
  exact lv_if_eq X.1 X.2.1 hd ht (fun h => kt h p e s m args below meth c Z X hZ H locs ls hN hW hS hl) (fun h => kf h p e s m args below meth c Z X hZ H locs ls hN hW hS hl)
theorem j_icmp_eq {x y : Int32} {off : Int} {tgt : Nat} (hd : decode cd pc = .ok (.if_icmp .eq off, 3)) (hp : pc + 3 = pc') (ht : (pc : Int) + off = (tgt : Int)) (kt : x = y → jx_J E l cd nL ret own ini Rm mc ms Q cells slots n kd R I tgt lv st) (kf : ¬ x = y → jx_J E l cd nL ret own ini Rm mc ms Q cells slots n kd R I pc' lv st) : jx_J E l cd nL ret own ini Rm mc ms Q cells slots n kd R I pc lv (.int y :: .int x :: st) := by
  subst hp
  intro p e s m args below meth c Z X hZ H locs ls hN hW hS hl
  exact lv_icmp_eq X.1 X.2.1 hd ht (fun h => kt h p e s m args below meth c Z X hZ H locs ls hN hW hS hl) (fun h => kf h p e s m args below meth c Z X hZ H locs ls hN hW hS hl)
theorem j_if_ne {x : Int32} {off : Int} {tgt : Nat} (hd : decode cd pc = .ok (.ifCond .ne off, 3)) (hp : pc + 3 = pc') (ht : (pc : Int) + off = (tgt : Int)) (kt : ¬ x = 0 → jx_J E l cd nL ret own ini Rm mc ms Q cells slots n kd R I tgt lv st) (kf : x = 0 → jx_J E l cd nL ret own ini Rm mc ms Q cells slots n kd R I pc' lv st) : jx_J E l cd nL ret own ini Rm mc ms Q cells slots n kd R I pc lv (.int x :: st) := by
  subst hp
  intro p e s m args below meth c Z X hZ H locs ls hN hW hS hl
  exact lv_if_ne X.1 X.2.1 hd ht (fun h => kt h p e s m args below meth c Z X hZ H locs ls hN hW hS hl) (fun h => kf h p e s m args below meth c Z X hZ H locs ls hN hW hS hl)
theorem j_icmp_ne {x y : Int32} {off : Int} {tgt : Nat} (hd : decode cd pc = .ok (.if_icmp .ne off, 3)) (hp : pc + 3 = pc') (ht : (pc : Int) + off = (tgt : Int)) (kt : ¬ x = y → jx_J E l cd nL ret own ini Rm mc ms Q cells slots n kd R I tgt lv st) (kf : x = y → jx_J E l cd nL ret own ini Rm mc ms Q cells slots n kd R I pc' lv st) : jx_J E l cd nL ret own ini Rm mc ms Q cells slots n kd R I pc lv (.int y :: .int x :: st) := by
  subst hp
  intro p e s m args below meth c Z X hZ H locs ls hN hW hS hl
  exact lv_icmp_ne X.1 X.2.1 hd ht (fun h => kt h p e s m args below meth c Z X hZ H locs ls hN hW hS hl) (fun h => kf h p e s m args below meth c Z X hZ H locs ls hN hW hS hl)
theorem j_if_lt {x : Int32} {off : Int} {tgt : Nat} (hd : decode cd pc = .ok (.ifCond .lt off, 3)) (hp : pc + 3 = pc') (ht : (pc : Int) + off = (tgt : Int)) (kt : x < 0 → jx_J E l cd nL ret own ini Rm mc ms Q cells slots n kd R I tgt lv st) (kf : ¬ x < 0 → jx_J E l cd nL ret own ini Rm mc ms Q cells slots n kd R I pc' lv st) : jx_J E l cd nL ret own ini Rm mc ms Q cells slots n kd R I pc lv (.int x :: st) := by
  subst hp
  intro p e s m args below meth c Z X hZ H locs ls hN hW hS hl
  exact lv_if_lt X.1 X.2.1 hd ht (fun h => kt h p e s m args below meth c Z X hZ H locs ls hN hW hS hl) (fun h => kf h p e s m args below meth c Z X hZ H locs ls hN hW hS hl)
theorem j_icmp_lt {x y : Int32} {off : Int} {tgt : Nat} (hd : decode cd pc = .ok (.if_icmp .lt off, 3)) (hp : pc + 3 = pc') (ht : (pc : Int) + off = (tgt : Int)) (kt : x < y → jx_J E l cd nL ret own ini Rm mc ms Q cells slots n kd R I tgt lv st) (kf : ¬ x < y → jx_J E l cd nL ret own ini Rm mc ms Q cells slots n kd R I pc' lv st) : jx_J E l cd nL ret own ini Rm mc ms Q cells slots n kd R I pc lv (.int y :: .int x :: st) := by
  subst hp
  intro p e s m args below meth c Z X hZ H locs ls hN hW hS hl
  exact lv_icmp_lt X.1 X.2.1 hd ht (fun h => kt h p e s m args below meth c Z X hZ H locs ls hN hW hS hl) (fun h => kf h p e s m args below meth c Z X hZ H locs ls hN hW hS hl)
theorem j_if_ge {x : Int32} {off : Int} {tgt : Nat} (hd : decode cd pc = .ok (.ifCond .ge off, 3)) (hp : pc + 3 = pc') (ht : (pc : Int) + off = (tgt : Int)) (kt : 0 ≤ x → jx_J E l cd nL ret own ini Rm mc ms Q cells slots n kd R I tgt lv st) (kf : ¬ 0 ≤ x → jx_J E l cd nL ret own ini Rm mc ms Q cells slots n kd R I pc' lv st) : jx_J E l cd nL ret own ini Rm mc ms Q cells slots n kd R I pc lv (.int x :: st) := by
  subst hp
  intro p e s m args below meth c Z X hZ H locs ls hN hW hS hl
  exact lv_if_ge X.1 X.2.1 hd ht (fun h => kt h p e s m args below meth c Z X hZ H locs ls hN hW hS hl) (fun h => kf h p e s m args below meth c Z X hZ H locs ls hN hW hS hl)
theorem j_icmp_ge {x y : Int32} {off : Int} {tgt : Nat} (hd : decode cd pc = .ok (.if_icmp .ge off, 3)) (hp : pc + 3 = pc') (ht : (pc : Int) + off = (tgt : Int)) (kt : y ≤ x → jx_J E l cd nL ret own ini Rm mc ms Q cells slots n kd R I tgt lv st) (kf : ¬ y ≤ x → jx_J E l cd nL ret own ini Rm mc ms Q cells slots n kd R I pc' lv st) : jx_J E l cd nL ret own ini Rm mc ms Q cells slots n kd R I pc lv (.int y :: .int x :: st) := by
  subst hp
  intro p e s m args below meth c Z X hZ H locs ls hN hW hS hl
  exact lv_icmp_ge X.1 X.2.1 hd ht (fun h => kt h p e s m args below meth c Z X hZ H locs ls hN hW hS hl) (fun h => kf h p e s m args below meth c Z X hZ H locs ls hN hW hS hl)
theorem j_if_gt {x : Int32} {off : Int} {tgt : Nat} (hd : decode cd pc = .ok (.ifCond .gt off, 3)) (hp : pc + 3 = pc') (ht : (pc : Int) + off = (tgt : Int)) (kt : 0 < x → jx_J E l cd nL ret own ini Rm mc ms Q cells slots n kd R I tgt lv st) (kf : ¬ 0 < x → jx_J E l cd nL ret own ini Rm mc ms Q cells slots n kd R I pc' lv st) : jx_J E l cd nL ret own ini Rm mc ms Q cells slots n kd R I pc lv (.int x :: st) := by
  subst hp
  intro p e s m args below meth c Z X hZ H locs ls hN hW hS hl
  exact lv_if_gt X.1 X.2.1 hd ht (fun h => kt h p e s m args below meth c Z X hZ H locs ls hN hW hS hl) (fun h => kf h p e s m args below meth c Z X hZ H locs ls hN hW hS hl)
theorem j_icmp_gt {x y : Int32} {off : Int} {tgt : Nat} (hd : decode cd pc = .ok (.if_icmp .gt off, 3)) (hp : pc + 3 = pc') (ht : (pc : Int) + off = (tgt : Int)) (kt : y < x → jx_J E l cd nL ret own ini Rm mc ms Q cells slots n kd R I tgt lv st) (kf : ¬ y < x → jx_J E l cd nL ret own ini Rm mc ms Q cells slots n kd R I pc' lv st) : jx_J E l cd nL ret own ini Rm mc ms Q cells slots n kd R I pc lv (.int y :: .int x :: st) := by
  subst hp
  intro p e s m args below meth c Z X hZ H locs ls hN hW hS hl
  exact lv_icmp_gt X.1 X.2.1 hd ht (fun h => kt h p e s m args below meth c Z X hZ H locs ls hN hW hS hl) (fun h => kf h p e s m args below meth c Z X hZ H locs ls hN hW hS hl)
theorem j_if_le {x : Int32} {off : Int} {tgt : Nat} (hd : decode cd pc = .ok (.ifCond .le off, 3)) (hp : pc + 3 = pc') (ht : (pc : Int) + off = (tgt : Int)) (kt : x ≤ 0 → jx_J E l cd nL ret own ini Rm mc ms Q cells slots n kd R I tgt lv st) (kf : ¬ x ≤ 0 → jx_J E l cd nL ret own ini Rm mc ms Q cells slots n kd R I pc' lv st) : jx_J E l cd nL ret own ini Rm mc ms Q cells slots n kd R I pc lv (.int x :: st) := by
  subst hp
  intro p e s m args below meth c Z X hZ H locs ls hN hW hS hl
  exact lv_if_le X.1 X.2.1 hd ht (fun h => kt h p e s m args below meth c Z X hZ H locs ls hN hW hS hl) (fun h => kf h p e s m args below meth c Z X hZ H locs ls hN hW hS hl)
theorem j_icmp_le {x y : Int32} {off : Int} {tgt : Nat} (hd : decode cd pc = .ok (.if_icmp .le off, 3)) (hp : pc + 3 = pc') (ht : (pc : Int) + off = (tgt : Int)) (kt : x ≤ y → jx_J E l cd nL ret own ini Rm mc ms Q cells slots n kd R I tgt lv st) (kf : ¬ x ≤ y → jx_J E l cd nL ret own ini Rm mc ms Q cells slots n kd R I pc' lv st) : jx_J E l cd nL ret own ini Rm mc ms Q cells slots n kd R I pc lv (.int y :: .int x :: st) := by
  subst hp
  intro p e s m args below meth c Z X hZ H locs ls hN hW hS hl
  exact lv_icmp_le X.1 X.2.1 hd ht (fun h => kt h p e s m args below meth c Z X hZ H locs ls hN hW hS hl) (fun h => kf h p e s m args below meth c Z X hZ H locs ls hN hW hS hl)
theorem j_goto {off : Int} {tgt : Nat} (hd : decode cd pc = .ok (.goto off, 3)) (ht : (pc : Int) + off = (tgt : Int)) (k : jx_J E l cd nL ret own ini Rm mc ms Q cells slots n kd R I tgt lv st) : jx_J E l cd nL ret own ini Rm mc ms Q cells slots n kd R I pc lv st := by
  intro p e s m args below meth c Z X hZ H locs ls hN hW hS hl
  exact lv_goto X.1 X.2.1 hd ht (k p e s m args below meth c Z X hZ H locs ls hN hW hS hl)
theorem j_tableOut {dflt lo hi : Int} {offs : Array Int} {len : Nat} {x : Int32} {tgt : Nat} (hd : decode cd pc = .ok (.tableswitch dflt lo hi offs, len)) (h : x.toInt < lo ∨ hi < x.toInt) (ht : (pc : Int) + dflt = (tgt : Int)) (k : jx_J E l cd nL ret own ini Rm mc ms Q cells slots n kd R I tgt lv st) : jx_J E l cd nL ret own ini Rm mc ms Q cells slots n kd R I pc lv (.int x :: st) := by
  intro p e s m args below meth c Z X hZ H locs ls hN hW hS hl
  exact lv_tableOut X.1 X.2.1 hd h ht (k p e s m args below meth c Z X hZ H locs ls hN hW hS hl)
theorem j_tableIn {dflt lo hi : Int} {offs : Array Int} {len : Nat} {x : Int32} {off : Int} {tgt : Nat} (hd : decode cd pc = .ok (.tableswitch dflt lo hi offs, len)) (h1 : ¬ x.toInt < lo) (h2 : ¬ hi < x.toInt) (ho : offs[(x.toInt - lo).toNat]? = some off) (ht : (pc : Int) + off = (tgt : Int)) (k : jx_J E l cd nL ret own ini Rm mc ms Q cells slots n kd R I tgt lv st) : jx_J E l cd nL ret own ini Rm mc ms Q cells slots n kd R I pc lv (.int x :: st) := by
  intro p e s m args below meth c Z X hZ H locs ls hN hW hS hl
  exact lv_tableIn X.1 X.2.1 hd h1 h2 ho ht (k p e s m args below meth c Z X hZ H locs ls hN hW hS hl)
theorem j_lookup {dflt : Int} {ps : Array (Int × Int)} {len : Nat} {x : Int32} {off : Int} {tgt : Nat} (hd : decode cd pc = .ok (.lookupswitch dflt ps, len)) (hq : (ps.toList.zip (ps.toList.drop 1)).all (fun (a, next) => a.1 < next.1) = true) (ho : Op.lookupswitch.offset ps.toList dflt x.toInt = off) (ht : (pc : Int) + off = (tgt : Int)) (k : jx_J E l cd nL ret own ini Rm mc ms Q cells slots n kd R I tgt lv st) : jx_J E l cd nL ret own ini Rm mc ms Q cells slots n kd R I pc lv (.int x :: st) := by
  intro p e s m args below meth c Z X hZ H locs ls hN hW hS hl
  exact lv_lookup X.1 X.2.1 hd hq ho ht (k p e s m args below meth c Z X hZ H locs ls hN hW hS hl)
theorem j_ret {v : Option Value} (hd : jx_isRet cd pc ret v) (h : Q v n kd R I) (hs : v.toList = st) : jx_J E l cd nL ret own ini Rm mc ms Q mc ms n kd R I pc lv st := by
  subst hs
  intro p e s m args below meth c Z X hZ H locs ls hN hW hS hl
  exact hZ v n kd R I H locs pc ls h hN hW hS hd
theorem j_ireturn {x : Int32} {ty : FieldType} (hd : decode cd pc = .ok (.ireturn, 1)) (hr : ret = some ty) (hn : narrow ty (.int x) = .int x) (h : Q (some (.int x)) n kd R I) : jx_J E l cd nL ret own ini Rm mc ms Q mc ms n kd R I pc lv [.int x] :=
  j_ret (v := some (.int x)) (Or.inl ⟨hd, x, ty, rfl, hr, hn⟩) h rfl
theorem j_return (hd : decode cd pc = .ok (.return_, 1)) (hr : ret = none) (h : Q none n kd R I) : jx_J E l cd nL ret own ini Rm mc ms Q mc ms n kd R I pc lv [] :=
  j_ret (v := none) (Or.inr (Or.inl ⟨hd, rfl, hr⟩)) h rfl
theorem j_areturn {a : Nat} {nm : String} (hd : decode cd pc = .ok (.areturn, 1)) (hr : ret = some (.object nm)) (h : Q (some (.ref a)) n kd R I) : jx_J E l cd nL ret own ini Rm mc ms Q mc ms n kd R I pc lv [.ref a] :=
  j_ret (v := some (.ref a)) (Or.inr (Or.inr (Or.inl ⟨hd, a, nm, rfl, hr⟩))) h rfl
theorem j_lreturn {x : Int64} (hd : decode cd pc = .ok (.lreturn, 1)) (hr : ret = some .long) (h : Q (some (.long x)) n kd R I) : jx_J E l cd nL ret own ini Rm mc ms Q mc ms n kd R I pc lv [.long x] :=
  j_ret (v := some (.long x)) (Or.inr (Or.inr (Or.inr (Or.inl ⟨hd, x, rfl, hr⟩)))) h rfl
theorem j_freturn {x : UInt32} (hd : decode cd pc = .ok (.freturn, 1)) (hr : ret = some .float) (h : Q (some (.float x)) n kd R I) : jx_J E l cd nL ret own ini Rm mc ms Q mc ms n kd R I pc lv [.float x] :=
  j_ret (v := some (.float x)) (Or.inr (Or.inr (Or.inr (Or.inr ⟨hd, x, rfl, hr⟩)))) h rfl
theorem j_eqI {I' : jx_I} (h : I = I') (k : jx_J E l cd nL ret own ini Rm mc ms Q cells slots n kd R I' pc lv st) : jx_J E l cd nL ret own ini Rm mc ms Q cells slots n kd R I pc lv st := h ▸ k
/-- a field's reference: the reading class, its entry, the object's class and place, whether it is a reference, its type, whether it is final -/
def jx_fl (own : String) (ix ci k : Nat) (b : Bool) (ty : FieldType) (fin : Bool) : Prop :=
  ∃ (C : String) (T : u_T) (N : Nat) (tys : Nat → FieldType), ci < 7 ∧ vwCl[ci]? = some (C, T, N) ∧ (∀ w ∈ u_ws C T N, w ∈ jx_W) ∧ (∀ k, k < N → parseFieldDescriptor (T k).2.2.1 = some (tys k)) ∧ (∀ a, a < N → ∀ b, b < N → a ≠ b → (T a).2.1 ≠ (T b).2.1) ∧ k < N ∧ (jx_lay ci)[k]? = some b ∧ Cond.fieldLink own ix (T k).1 (T k).2.1 (T k).2.2.1 ∈ jx_W ∧ N = (jx_lay ci).length ∧ parseFieldDescriptor (T k).2.2.1 = some ty ∧ (T k).2.2.2 = fin ∧ (T k).1 = C
theorem j_getI {ix ci k0 a mm : Nat} {ty : FieldType} {fin : Bool} (hf : jx_fl own ix ci k0 false ty fin) (hk : kd a = (ci, mm)) (hd : decode cd pc = .ok (.getfield ix, 3)) (hp : pc + 3 = pc') (k : jx_J E l cd nL ret own ini Rm mc ms Q cells slots n kd R I pc' lv (.int (I a k0) :: st)) : jx_J E l cd nL ret own ini Rm mc ms Q cells slots n kd R I pc lv (.ref a :: st) := by
  subst hp
  intro p e s m args below meth c Z X hZ H locs ls hN hW hS hl
  obtain ⟨C, T, N, tys, hci, hc, hin, hty, hnm, hkN, hlay, hlk, hNl, hdt, hfin, hC⟩ := hf
  obtain ⟨q0, hq0⟩ := jx_at hW (a := a) (by rw [hk]; show ci ≤ 10; omega)
  rw [jx_pf_obj hci hk] at hq0
  refine va_get X.1 X.2.1 (X.2.2.2.2.2.2.2.1) hin X.2.2.2.2.2.1 X.2.2.2.2.2.2.2.2.1.1 hW.2 q0 hq0 hc k0 hkN (X.2.2.2.2.2.2.2.1 _ hlk) (fun _ h => h) (v := .int (I a k0)) ?_ hd (k p e s m args below meth c Z X hZ H locs ls hN hW hS hl)
  rw [jx_fs_i _ _ _ _ _ hlay, Nat.zero_add]
theorem j_getR {ix ci k0 a mm q : Nat} {ty : FieldType} {fin : Bool} (hf : jx_fl own ix ci k0 true ty fin) (hk : kd a = (ci, mm)) (hr : R a k0 = some q) (hd : decode cd pc = .ok (.getfield ix, 3)) (hp : pc + 3 = pc') (k : jx_J E l cd nL ret own ini Rm mc ms Q cells slots n kd R I pc' lv (.ref q :: st)) : jx_J E l cd nL ret own ini Rm mc ms Q cells slots n kd R I pc lv (.ref a :: st) := by
  subst hp
  intro p e s m args below meth c Z X hZ H locs ls hN hW hS hl
  obtain ⟨C, T, N, tys, hci, hc, hin, hty, hnm, hkN, hlay, hlk, hNl, hdt, hfin, hC⟩ := hf
  obtain ⟨q0, hq0⟩ := jx_at hW (a := a) (by rw [hk]; show ci ≤ 10; omega)
  rw [jx_pf_obj hci hk] at hq0
  refine va_get X.1 X.2.1 (X.2.2.2.2.2.2.2.1) hin X.2.2.2.2.2.1 X.2.2.2.2.2.2.2.2.1.1 hW.2 q0 hq0 hc k0 hkN (X.2.2.2.2.2.2.2.1 _ hlk) (fun _ h => h) (v := .ref q) ?_ hd (k p e s m args below meth c Z X hZ H locs ls hN hW hS hl)
  rw [jx_fs_r _ _ _ _ _ hlay, Nat.zero_add, hr]
  rfl
theorem j_putI {ix ci k0 a mm : Nat} {ty : FieldType} {x : Int32} (hf : jx_fl own ix ci k0 false ty false) (hk : kd a = (ci, mm)) (hn : narrow ty (.int x) = .int x) (hfit : fits ty (.int x) = true) (hd : decode cd pc = .ok (.putfield ix, 3)) (hp : pc + 3 = pc') (k : jx_J E l cd nL ret own ini Rm mc ms Q cells slots n kd R (jx_up I a k0 x) pc' lv st) : jx_J E l cd nL ret own ini Rm mc ms Q cells slots n kd R I pc lv (.int x :: .ref a :: st) := by
  subst hp
  intro p e s m args below meth c Z X hZ H locs ls hN hW hS hl
  obtain ⟨C, T, N, tys, hci, hc, hin, hty, hnm, hkN, hlay, hlk, hNl, hdt, hfin, hC⟩ := hf
  have ha : (kd a).1 ≤ 10 := by rw [hk]; show ci ≤ 10; omega
  obtain ⟨q0, hq0⟩ := jx_at hW ha
  have hq1 := hq0
  rw [jx_pf_obj hci hk] at hq0
  refine va_put X.1 X.2.1 (X.2.2.2.2.2.2.2.1) hin tys hty hnm X.2.2.2.2.2.1 X.2.2.2.2.2.2.2.2.1.1 hW.2 (jx_D E n _) hS q0 hq0 hc k0 hkN (X.2.2.2.2.2.2.2.1 _ hlk) (fun _ h => h) hfin hdt hn hfit (by rw [jx_fs_len]; omega) hd (fun H1 locs1 hP1 _ hS1 => ?_)
  refine k p e s m args below meth c Z X hZ H1 locs1 ls hN ?_ hS1 hl
  rw [jx_fs_setI _ _ _ _ _ _ hlay] at hP1
  refine jx_Wd_set hW ha hq1 hP1 (jx_pf_upI ?_)
  rw [hk, jx_cell, if_neg (by show ¬ ci = 7; omega), if_neg (by show ¬ ci = 8; omega), if_neg (by show ¬ ci = 9; omega), if_neg (by show ¬ ci = 10; omega), Nat.zero_add]
end JR
end
section
section JR
variable {E : jx_E} {l : Launch} {cd : ByteArray} {nL : Nat} {ret : Option FieldType} {own : String} {ini : Bool} {Rm : Room} {mc ms : Nat} {Q : jx_Q} {cells slots n : Nat} {kd : jx_K} {R : jx_R} {I : jx_I} {pc pc' : Nat} {lv : List (Option Value)} {st : List Value}
theorem j_putR {ix ci k0 a mm q : Nat} {ty : FieldType} (hf : jx_fl own ix ci k0 true ty false)  (hk : kd a = (ci, mm)) (hn : narrow ty (.ref q) = .ref q) (hfit : fits ty (.ref q) = true) (hd : decode cd pc = .ok (.putfield ix, 3)) (hp : pc + 3 = pc') (k : jx_J E l cd nL ret own ini Rm mc ms Q cells slots n kd (jx_upR R a k0 (some q)) I pc' lv st) : jx_J E l cd nL ret own ini Rm mc ms Q cells slots n kd R I pc lv (.ref q :: .ref a :: st) := by
  subst hp
  intro p e s m args below meth c Z X hZ H locs ls hN hW hS hl
  obtain ⟨C, T, N, tys, hci, hc, hin, hty, hnm, hkN, hlay, hlk, hNl, hdt, hfin, hC⟩ := hf
  have ha : (kd a).1 ≤ 10 := by rw [hk]; show ci ≤ 10; omega
  obtain ⟨q0, hq0⟩ := jx_at hW ha
  have hq1 := hq0
  rw [jx_pf_obj hci hk] at hq0
  refine va_put X.1 X.2.1 (X.2.2.2.2.2.2.2.1) hin tys hty hnm X.2.2.2.2.2.1 X.2.2.2.2.2.2.2.2.1.1 hW.2 (jx_D E n _) hS q0 hq0 hc k0 hkN (X.2.2.2.2.2.2.2.1 _ hlk) (fun _ h => h) hfin   hdt hn hfit (by rw [jx_fs_len]; omega) hd (fun H1 locs1 hP1 _ hS1 => ?_)
  refine k p e s m args below meth c Z X hZ H1 locs1 ls hN ?_ hS1 hl
  rw [show Value.ref q = va_rf (some q) from rfl, jx_fs_setR _ _ _ _ _ _ hlay] at hP1
  refine jx_Wd_set hW ha hq1 hP1 (jx_pf_upR ?_)
  rw [hk, jx_cell, if_neg (by show ¬ ci = 7; omega), if_neg (by show ¬ ci = 8; omega), if_neg (by show ¬ ci = 9; omega), if_neg (by show ¬ ci = 10; omega), Nat.zero_add]
theorem j_putRF {ix ci k0 a mm q : Nat} {ty : FieldType} (hf : jx_fl own ix ci k0 true ty true) (hini : ini = true) (hoc : ∀ C T N, vwCl[ci]? = some (C, T, N) → C = own) (hk : kd a = (ci, mm)) (hn : narrow ty (.ref q) = .ref q) (hfit : fits ty (.ref q) = true) (hd : decode cd pc = .ok (.putfield ix, 3)) (hp : pc + 3 = pc') (k : jx_J E l cd nL ret own ini Rm mc ms Q cells slots n kd (jx_upR R a k0 (some q)) I pc' lv st) : jx_J E l cd nL ret own ini Rm mc ms Q cells slots n kd R I pc lv (.ref q :: .ref a :: st) := by
  subst hp
  intro p e s m args below meth c Z X hZ H locs ls hN hW hS hl
  obtain ⟨C, T, N, tys, hci, hc, hin, hty, hnm, hkN, hlay, hlk, hNl, hdt, hfin, hC⟩ := hf
  have ha : (kd a).1 ≤ 10 := by rw [hk]; show ci ≤ 10; omega
  obtain ⟨q0, hq0⟩ := jx_at hW ha
  have hq1 := hq0
  rw [jx_pf_obj hci hk] at hq0
  refine va_putF X.1 X.2.1 (X.2.2.2.2.2.2.2.1) hin tys hty hnm X.2.2.2.2.2.1 X.2.2.2.2.2.2.2.2.1.1 hW.2 (jx_D E n _) hS q0 hq0 hc k0 hkN (X.2.2.2.2.2.2.2.1 _ hlk) (fun _ h => h) hfin (X.2.2.2.2.2.2.1 hini) (hC.trans (hoc C T N hc)) hdt hn hfit (by rw [jx_fs_len]; omega) hd (fun H1 locs1 hP1 _ hS1 => ?_)
  refine k p e s m args below meth c Z X hZ H1 locs1 ls hN ?_ hS1 hl
  rw [show Value.ref q = va_rf (some q) from rfl, jx_fs_setR _ _ _ _ _ _ hlay] at hP1
  refine jx_Wd_set hW ha hq1 hP1 (jx_pf_upR ?_)
  rw [hk, jx_cell, if_neg (by show ¬ ci = 7; omega), if_neg (by show ¬ ci = 8; omega), if_neg (by show ¬ ci = 9; omega), if_neg (by show ¬ ci = 10; omega), Nat.zero_add]
theorem j_iald {a mm j : Nat} {i : Int32} (hk : kd a = (7, mm)) (hi : i = nI j) (hj : j < mm) (hm : mm < 2147483648) (hd : decode cd pc = .ok (.iaload, 1)) (hp : pc + 1 = pc') (k : jx_J E l cd nL ret own ini Rm mc ms Q cells slots n kd R I pc' lv (.int (I a j) :: st)) : jx_J E l cd nL ret own ini Rm mc ms Q cells slots n kd R I pc lv (.int i :: .ref a :: st) := by
  subst hp; subst hi
  intro p e s m args below meth c Z X hZ H locs ls hN hW hS hl
  obtain ⟨q0, hq0⟩ := jx_at hW (a := a) (by rw [hk]; show 7 ≤ 10; omega)
  rw [jx_pf_arrI hk] at hq0
  refine va_iald X.1 X.2.1 X.2.2.2.2.2.2.2.2.1.1 hW.2 q0 0 hq0 rfl (vp_in_nI hj hm) hd ?_
  rw [nI_clamp (by omega)]
  exact k p e s m args below meth c Z X hZ H locs ls hN hW hS hl
theorem j_cald {a mm j : Nat} {i : Int32} (hk : kd a = (8, mm)) (hi : i = nI j) (hj : j < mm) (hm : mm < 2147483648) (hd : decode cd pc = .ok (.caload, 1)) (hp : pc + 1 = pc') (k : jx_J E l cd nL ret own ini Rm mc ms Q cells slots n kd R I pc' lv (.int (I a j) :: st)) : jx_J E l cd nL ret own ini Rm mc ms Q cells slots n kd R I pc lv (.int i :: .ref a :: st) := by
  subst hp; subst hi
  intro p e s m args below meth c Z X hZ H locs ls hN hW hS hl
  obtain ⟨q0, hq0⟩ := jx_at hW (a := a) (by rw [hk]; show 8 ≤ 10; omega)
  rw [jx_pf_arrC hk] at hq0
  refine va_cald X.1 X.2.1 X.2.2.2.2.2.2.2.2.1.1 hW.2 q0 1 hq0 rfl (vp_in_nI hj hm) hd ?_
  rw [nI_clamp (by omega)]
  exact k p e s m args below meth c Z X hZ H locs ls hN hW hS hl
theorem j_iast {a mm j : Nat} {i x : Int32} (hk : kd a = (7, mm)) (hi : i = nI j) (hj : j < mm) (hm : mm < 2147483648) (hd : decode cd pc = .ok (.iastore, 1)) (hp : pc + 1 = pc') (k : jx_J E l cd nL ret own ini Rm mc ms Q cells slots n kd R (jx_up I a j x) pc' lv st) : jx_J E l cd nL ret own ini Rm mc ms Q cells slots n kd R I pc lv (.int x :: .int i :: .ref a :: st) := by
  subst hp; subst hi
  intro p e s m args below meth c Z X hZ H locs ls hN hW hS hl
  have ha : (kd a).1 ≤ 10 := by rw [hk]; show 7 ≤ 10; omega
  obtain ⟨q0, hq0⟩ := jx_at hW ha
  have hq1 := hq0
  rw [jx_pf_arrI hk] at hq0
  refine va_iast X.1 X.2.1 X.2.2.2.2.2.2.2.2.1.1 hW.2 (jx_D E n _) hS q0 0 hq0 rfl (vp_in_nI hj hm) hd (fun H1 locs1 hP1 _ hS1 => ?_)
  refine k p e s m args below meth c Z X hZ H1 locs1 ls hN ?_ hS1 hl
  rw [nI_clamp (by omega)] at hP1
  refine jx_Wd_set hW ha hq1 hP1 (jx_pf_upI ?_)
  rw [hk]
  simp [jx_cell]
theorem j_cast {a mm j : Nat} {i x : Int32} (hk : kd a = (8, mm)) (hi : i = nI j) (hj : j < mm) (hm : mm < 2147483648) (hx : vp_nar .char x = x) (hd : decode cd pc = .ok (.castore, 1)) (hp : pc + 1 = pc') (k : jx_J E l cd nL ret own ini Rm mc ms Q cells slots n kd R (jx_up I a j x) pc' lv st) : jx_J E l cd nL ret own ini Rm mc ms Q cells slots n kd R I pc lv (.int x :: .int i :: .ref a :: st) := by
  subst hp; subst hi
  intro p e s m args below meth c Z X hZ H locs ls hN hW hS hl
  have ha : (kd a).1 ≤ 10 := by rw [hk]; show 8 ≤ 10; omega
  obtain ⟨q0, hq0⟩ := jx_at hW ha
  have hq1 := hq0
  rw [jx_pf_arrC hk] at hq0
  refine va_cast X.1 X.2.1 X.2.2.2.2.2.2.2.2.1.1 hW.2 (jx_D E n _) hS q0 1 hq0 rfl (vp_in_nI hj hm) hd (fun H1 locs1 hP1 _ hS1 => ?_)
  refine k p e s m args below meth c Z X hZ H1 locs1 ls hN ?_ hS1 hl
  rw [nI_clamp (by omega), hx] at hP1
  refine jx_Wd_set hW ha hq1 hP1 (jx_pf_upI ?_)
  rw [hk]
  simp [jx_cell]
theorem j_aaldP {a mm j q : Nat} {i : Int32} (hk : kd a = (9, mm)) (hi : i = nI j) (hj : j < mm) (hm : mm < 2147483648) (hr : R a j = some q) (hd : decode cd pc = .ok (.aaload, 1)) (hp : pc + 1 = pc') (k : jx_J E l cd nL ret own ini Rm mc ms Q cells slots n kd R I pc' lv (.ref q :: st)) : jx_J E l cd nL ret own ini Rm mc ms Q cells slots n kd R I pc lv (.int i :: .ref a :: st) := by
  subst hp; subst hi
  intro p e s m args below meth c Z X hZ H locs ls hN hW hS hl
  obtain ⟨q0, hq0⟩ := jx_at hW (a := a) (by rw [hk]; show 9 ≤ 10; omega)
  rw [jx_pf_arrP hk] at hq0
  refine va_aldq X.1 X.2.1 X.2.2.2.2.2.2.2.2.1.1 hW.2 q0 2 hq0 rfl (vp_in_nI hj hm) hd ?_
  rw [nI_clamp (by omega), hr]
  exact k p e s m args below meth c Z X hZ H locs ls hN hW hS hl
theorem j_aastP {a mm j q m2 : Nat} {i : Int32} (hk : kd a = (9, mm)) (hi : i = nI j) (hj : j < mm) (hm : mm < 2147483648) (hq : kd q = (2, m2)) (hd : decode cd pc = .ok (.aastore, 1)) (hp : pc + 1 = pc') (k : jx_J E l cd nL ret own ini Rm mc ms Q cells slots n kd (jx_upR R a j (some q)) I pc' lv st) : jx_J E l cd nL ret own ini Rm mc ms Q cells slots n kd R I pc lv (.ref q :: .int i :: .ref a :: st) := by
  subst hp; subst hi
  intro p e s m args below meth c Z X hZ H locs ls hN hW hS hl
  have ha : (kd a).1 ≤ 10 := by rw [hk]; show 9 ≤ 10; omega
  obtain ⟨q0, hq0⟩ := jx_at hW ha
  obtain ⟨q2, hq2⟩ := jx_at hW (a := q) (by rw [hq]; show 2 ≤ 10; omega)
  have hq1 := hq0
  rw [jx_pf_arrP hk] at hq0
  rw [jx_pf_obj (by omega) hq] at hq2
  refine va_astq (r := (RX2, TX2, 11)) X.1 X.2.1 X.2.2.2.2.2.2.2.2.1.1 hW.2 (jx_D E n _) hS q0 2 q2 2 hq0 rfl hq2 rfl (vp_in_nI hj hm) hd (fun H1 locs1 hP1 _ hS1 => ?_)
  refine k p e s m args below meth c Z X hZ H1 locs1 ls hN ?_ hS1 hl
  rw [nI_clamp (by omega)] at hP1
  refine jx_Wd_set hW ha hq1 hP1 (jx_pf_upR ?_)
  rw [hk]
  simp [jx_cell]
theorem j_aaldS {a mm j q : Nat} {i : Int32} (hk : kd a = (10, mm)) (hi : i = nI j) (hj : j < mm) (hm : mm < 2147483648) (hr : R a j = some q) (hd : decode cd pc = .ok (.aaload, 1)) (hp : pc + 1 = pc') (k : jx_J E l cd nL ret own ini Rm mc ms Q cells slots n kd R I pc' lv (.ref q :: st)) : jx_J E l cd nL ret own ini Rm mc ms Q cells slots n kd R I pc lv (.int i :: .ref a :: st) := by
  subst hp; subst hi
  intro p e s m args below meth c Z X hZ H locs ls hN hW hS hl
  obtain ⟨q0, hq0⟩ := jx_at hW (a := a) (by rw [hk]; show 10 ≤ 10; omega)
  rw [jx_pf_arrS hk] at hq0
  refine va_aldq X.1 X.2.1 X.2.2.2.2.2.2.2.2.1.1 hW.2 q0 3 hq0 rfl (vp_in_nI hj hm) hd ?_
  rw [nI_clamp (by omega), hr]
  exact k p e s m args below meth c Z X hZ H locs ls hN hW hS hl
theorem j_aastS {a mm j q m2 : Nat} {i : Int32} (hk : kd a = (10, mm)) (hi : i = nI j) (hj : j < mm) (hm : mm < 2147483648) (hq : kd q = (4, m2)) (hd : decode cd pc = .ok (.aastore, 1)) (hp : pc + 1 = pc') (k : jx_J E l cd nL ret own ini Rm mc ms Q cells slots n kd (jx_upR R a j (some q)) I pc' lv st) : jx_J E l cd nL ret own ini Rm mc ms Q cells slots n kd R I pc lv (.ref q :: .int i :: .ref a :: st) := by
  subst hp; subst hi
  intro p e s m args below meth c Z X hZ H locs ls hN hW hS hl
  have ha : (kd a).1 ≤ 10 := by rw [hk]; show 10 ≤ 10; omega
  obtain ⟨q0, hq0⟩ := jx_at hW ha
  obtain ⟨q2, hq2⟩ := jx_at hW (a := q) (by rw [hq]; show 4 ≤ 10; omega)
  have hq1 := hq0
  rw [jx_pf_arrS hk] at hq0
  rw [jx_pf_obj (by omega) hq] at hq2
  refine va_astq (r := (RX4, TX4, 9)) X.1 X.2.1 X.2.2.2.2.2.2.2.2.1.1 hW.2 (jx_D E n _) hS q0 3 q2 4 hq0 rfl hq2 rfl (vp_in_nI hj hm) hd (fun H1 locs1 hP1 _ hS1 => ?_)
  refine k p e s m args below meth c Z X hZ H1 locs1 ls hN ?_ hS1 hl
  rw [nI_clamp (by omega)] at hP1
  refine jx_Wd_set hW ha hq1 hP1 (jx_pf_upR ?_)
  rw [hk]
  simp [jx_cell]
def jx_nw (own : String) (ix ci N : Nat) : Prop :=
  ∃ (C : String) (T : u_T) (tys : Nat → FieldType), ci < 7 ∧ vwCl[ci]? = some (C, T, N) ∧ (∀ w ∈ u_ws C T N, w ∈ jx_W) ∧ (∀ k, k < N → parseFieldDescriptor (T k).2.2.1 = some (tys k)) ∧ Cond.classLink own ix C ∈ jx_W ∧ Cond.instantiable C N ∈ jx_W ∧ Cond.initialized C ∈ jx_W ∧ (∀ j, j < N → defaultValue (tys j) = vp_V (jx_fs (jx_lay ci) (fun _ => none) (fun _ => 0) 0) j)
theorem j_new {ix ci N : Nat} (hf : jx_nw own ix ci N) (hcells : cells + 1 ≤ Rm.cells) (hslots : slots + N ≤ Rm.slots) (hd : decode cd pc = .ok (.new ix, 3)) (hp : pc + 3 = pc') (k : jx_J E l cd nL ret own ini Rm mc ms Q (cells + 1) (slots + N) (n + 1) (va_up kd (E.2.2.1 + n) (ci, 0)) (va_up R (E.2.2.1 + n) (fun _ => none)) (va_up I (E.2.2.1 + n) (fun _ => 0)) pc' lv (.ref (E.2.2.1 + n) :: st)) : jx_J E l cd nL ret own ini Rm mc ms Q cells slots n kd R I pc lv st := by
  subst hp
  intro p e s m args below meth c Z X hZ H locs ls hN hW hS hl
  obtain ⟨C, T, tys, hci, hc, hin, hty, hcl, hins, hini, hfs⟩ := hf
  intro T0 hT XS
  have hz := jx_size XS hT X.2.2.2.2.2.2.2.2.2 hN hW
  have hKn := (X.2.2.2.2.2.2.2.2.1.1).1 ci _ hc
  have hN' := hN
  refine (show W p l e Rm s m args below meth c H locs cells slots Z (F0 m pc ls st) from ?_) T0 hT XS
  refine W.newcK X.1 X.2.1 X.2.2.2.2.2.1 (X.2.2.2.2.2.2.2.1 _ hcl) (X.2.2.2.2.2.2.2.1 _ hins) (X.2.2.2.2.2.2.2.1 _ hini) rfl hd hcells hslots hKn.2.1 hz fun H1 kC hkC e1 z1 o1 => ?_
  have hk0 : ∀ (k : Nat) (x : Nat × va_E), ([] ++ va_pl (List.range' E.2.2.1 n) (jx_pf E kd R I))[k]? = some x → H1[x.1]? = H[x.1]? := fun k x hx => o1 x.1 (by rw [← hz]; exact (hW.2 k x hx).lt)
  refine (k p e s m args below meth c Z X hZ H1 locs ls (by omega) (jx_Wd_push hW (q := (ci, 0)) (e := (.inr (ci, jx_fs (jx_lay ci) (fun _ => none) (fun _ => 0) 0))) ((hW.2.kept hk0).app (fun k x hx => ?_)) ?_) ⟨by omega, fun x h1 h2 => (o1 x (by have := hS.1; omega)).trans (hS.2.1 x h1 h2), hS.2.2⟩ hl)
  · have hz2 : k < 1 := (List.getElem?_eq_some_iff.mp hx).1
    rw [show k = 0 by omega] at hx
    cases hx
    exact ⟨_, hc, (u_born tys (X.2.2.2.2.2.2.2.1) hin hKn hkC e1 hty).to hfs⟩
  · simp only [jx_cell]
    rw [if_neg (by omega), if_neg (by omega), if_neg (by omega), if_neg (by omega)]
theorem j_newaI {mm : Nat} {i : Int32} (hi : i = nI mm) (hm : mm < 65536) (hcells : cells + 1 ≤ Rm.cells) (hslots : slots + mm ≤ Rm.slots) (hw : Cond.arrayClass .int ∈ jx_W) (hd : decode cd pc = .ok (.newarray .int, 2)) (hp : pc + 2 = pc') (k : jx_J E l cd nL ret own ini Rm mc ms Q (cells + 1) (slots + mm) (n + 1) (va_up kd (E.2.2.1 + n) (7, mm)) (va_up R (E.2.2.1 + n) (fun _ => none)) (va_up I (E.2.2.1 + n) (fun _ => 0)) pc' lv (.ref (E.2.2.1 + n) :: st)) : jx_J E l cd nL ret own ini Rm mc ms Q cells slots n kd R I pc lv (.int i :: st) := by
  subst hp; subst hi
  intro p e s m args below meth c Z X hZ H locs ls hN hW hS hl
  intro T0 hT XS
  have hz := jx_size XS hT X.2.2.2.2.2.2.2.2.2 hN hW
  have hN' := hN
  refine (show W p l e Rm s m args below meth c H locs cells slots Z (F0 m pc ls (.int (nI mm) :: st)) from ?_) T0 hT XS
  refine va_newaK (atype := .int) (N := mm) X.1 X.2.1 (X.2.2.2.2.2.2.2.1 _ hw) rfl hd rfl (nI_pos (by omega)) (nI_clamp (by omega)) (by show mm * _ ≤ _; simp [newarray.typeOf, componentBytes]; omega) hcells hslots hz fun H1 cA e1 z1 o1 hAr hNm => ?_
  have hcA : cA = E.2.1 0 := by
    have h1 := ((X.2.2.2.2.2.2.2.2.1.1).2 0 (E.2.1 0, .int) rfl).2
    exact Option.some.inj (hNm.symm.trans h1)
  subst hcA
  have hk0 : ∀ (k : Nat) (x : Nat × va_E), ([] ++ va_pl (List.range' E.2.2.1 n) (jx_pf E kd R I))[k]? = some x → H1[x.1]? = H[x.1]? := fun k x hx => o1 x.1 (by rw [← hz]; exact (hW.2 k x hx).lt)
  refine (k p e s m args below meth c Z X hZ H1 locs ls (by omega) (jx_Wd_push hW (q := (7, mm)) (e := (.inl (E.2.1 0, mm, .inl (fun _ => 0)))) ((hW.2.kept hk0).app (fun k x hx => ?_)) ?_) ⟨by omega, fun x h1 h2 => (o1 x (by have := hS.1; omega)).trans (hS.2.1 x h1 h2), hS.2.2⟩ hl)
  · have hz2 : k < 1 := (List.getElem?_eq_some_iff.mp hx).1
    rw [show k = 0 by omega] at hx
    cases hx
    exact e1
  · simp [jx_cell]
theorem j_newaC {mm : Nat} {i : Int32} (hi : i = nI mm) (hm : mm < 65536) (hcells : cells + 1 ≤ Rm.cells) (hslots : slots + mm ≤ Rm.slots) (hw : Cond.arrayClass .char ∈ jx_W) (hd : decode cd pc = .ok (.newarray .char, 2)) (hp : pc + 2 = pc') (k : jx_J E l cd nL ret own ini Rm mc ms Q (cells + 1) (slots + mm) (n + 1) (va_up kd (E.2.2.1 + n) (8, mm)) (va_up R (E.2.2.1 + n) (fun _ => none)) (va_up I (E.2.2.1 + n) (fun _ => 0)) pc' lv (.ref (E.2.2.1 + n) :: st)) : jx_J E l cd nL ret own ini Rm mc ms Q cells slots n kd R I pc lv (.int i :: st) := by
  subst hp; subst hi
  intro p e s m args below meth c Z X hZ H locs ls hN hW hS hl
  intro T0 hT XS
  have hz := jx_size XS hT X.2.2.2.2.2.2.2.2.2 hN hW
  have hN' := hN
  refine (show W p l e Rm s m args below meth c H locs cells slots Z (F0 m pc ls (.int (nI mm) :: st)) from ?_) T0 hT XS
  refine va_newaK (atype := .char) (N := mm) X.1 X.2.1 (X.2.2.2.2.2.2.2.1 _ hw) rfl hd rfl (nI_pos (by omega)) (nI_clamp (by omega)) (by show mm * _ ≤ _; simp [newarray.typeOf, componentBytes]; omega) hcells hslots hz fun H1 cA e1 z1 o1 hAr hNm => ?_
  have hcA : cA = E.2.1 1 := by
    have h1 := ((X.2.2.2.2.2.2.2.2.1.1).2 1 (E.2.1 1, .char) rfl).2
    exact Option.some.inj (hNm.symm.trans h1)
  subst hcA
  have hk0 : ∀ (k : Nat) (x : Nat × va_E), ([] ++ va_pl (List.range' E.2.2.1 n) (jx_pf E kd R I))[k]? = some x → H1[x.1]? = H[x.1]? := fun k x hx => o1 x.1 (by rw [← hz]; exact (hW.2 k x hx).lt)
  refine (k p e s m args below meth c Z X hZ H1 locs ls (by omega) (jx_Wd_push hW (q := (8, mm)) (e := (.inl (E.2.1 1, mm, .inl (fun _ => 0)))) ((hW.2.kept hk0).app (fun k x hx => ?_)) ?_) ⟨by omega, fun x h1 h2 => (o1 x (by have := hS.1; omega)).trans (hS.2.1 x h1 h2), hS.2.2⟩ hl)
  · have hz2 : k < 1 := (List.getElem?_eq_some_iff.mp hx).1
    rw [show k = 0 by omega] at hx
    cases hx
    exact e1
  · simp [jx_cell]
theorem j_anewP {ix mm : Nat} {i : Int32} (hi : i = nI mm) (hm : mm < 65536) (hcells : cells + 1 ≤ Rm.cells) (hslots : slots + mm ≤ Rm.slots) (hw : Cond.classLink own ix RX2 ∈ jx_W) (hd : decode cd pc = .ok (.anewarray ix, 3)) (hp : pc + 3 = pc') (k : jx_J E l cd nL ret own ini Rm mc ms Q (cells + 1) (slots + mm) (n + 1) (va_up kd (E.2.2.1 + n) (9, mm)) (va_up R (E.2.2.1 + n) (fun _ => none)) (va_up I (E.2.2.1 + n) (fun _ => 0)) pc' lv (.ref (E.2.2.1 + n) :: st)) : jx_J E l cd nL ret own ini Rm mc ms Q cells slots n kd R I pc lv (.int i :: st) := by
  subst hp; subst hi
  intro p e s m args below meth c Z X hZ H locs ls hN hW hS hl
  intro T0 hT XS
  have hz := jx_size XS hT X.2.2.2.2.2.2.2.2.2 hN hW
  have hN' := hN
  have hao : va_AO RX2 s := X.2.2.2.2.2.2.2.2.1.2.2.2.2.2.2.2.2.2.1
  refine (show W p l e Rm s m args below meth c H locs cells slots Z (F0 m pc ls (.int (nI mm) :: st)) from ?_) T0 hT XS
  refine W.anew X.1 X.2.1 X.2.2.2.2.2.1 (X.2.2.2.2.2.2.2.1 _ hw) (va_AO.use hao) rfl hd rfl (nI_pos (by omega)) (by rw [nI_clamp (by omega)]; omega) hcells (by rw [nI_clamp (by omega)]; exact hslots) fun cA kA comp f1 f2 f3 f4 => ?_
  have hcA : cA = E.2.1 2 := by
    obtain ⟨_, _, _, _, _, h1⟩ := ((X.2.2.2.2.2.2.2.2.1.1).2 2 (E.2.1 2, .object RX2) rfl).2
    exact Option.some.inj (f1.symm.trans h1)
  subst hcA
  rw [nI_clamp (by omega), hz]
  generalize hH1 : H.push ({ cls := E.2.1 2, slots := Array.replicate mm .null, vm := .none } : Cell) = H1
  have z1 : H1.size = E.2.2.1 + n + 1 := by rw [← hH1, Array.size_push, hz]
  have e1 : H1[E.2.2.1 + n]? = some (arrV (E.2.1 2) mm (fun _ => .null)) := by rw [← hH1, ← hz, Array.getElem?_push_size, ← arrV_new]
  have o1 : ∀ q : Nat, q < E.2.2.1 + n → H1[q]? = H[q]? := fun q hq => by rw [← hH1, Array.getElem?_push, if_neg (by rw [hz]; exact Nat.ne_of_lt hq)]
  have hk0 : ∀ (k : Nat) (x : Nat × va_E), ([] ++ va_pl (List.range' E.2.2.1 n) (jx_pf E kd R I))[k]? = some x → H1[x.1]? = H[x.1]? := fun k x hx => o1 x.1 (by rw [← hz]; exact (hW.2 k x hx).lt)
  refine (k p e s m args below meth c Z X hZ H1 locs ls (by omega) (jx_Wd_push hW (q := (9, mm)) (e := (.inl (E.2.1 2, mm, .inr (.inr (.inr (.inr (fun _ => none))))))) ((hW.2.kept hk0).app (fun k x hx => ?_)) ?_) ⟨by omega, fun x h1 h2 => (o1 x (by have := hS.1; omega)).trans (hS.2.1 x h1 h2), hS.2.2⟩ hl)
  · have hz2 : k < 1 := (List.getElem?_eq_some_iff.mp hx).1
    rw [show k = 0 by omega] at hx
    cases hx
    show H1[_]? = some (vp_cell _ _)
    rw [vp_cell_q]
    exact e1
  · simp [jx_cell]
theorem j_anewS {ix mm : Nat} {i : Int32} (hi : i = nI mm) (hm : mm < 65536) (hcells : cells + 1 ≤ Rm.cells) (hslots : slots + mm ≤ Rm.slots) (hw : Cond.classLink own ix RX4 ∈ jx_W) (hd : decode cd pc = .ok (.anewarray ix, 3)) (hp : pc + 3 = pc') (k : jx_J E l cd nL ret own ini Rm mc ms Q (cells + 1) (slots + mm) (n + 1) (va_up kd (E.2.2.1 + n) (10, mm)) (va_up R (E.2.2.1 + n) (fun _ => none)) (va_up I (E.2.2.1 + n) (fun _ => 0)) pc' lv (.ref (E.2.2.1 + n) :: st)) : jx_J E l cd nL ret own ini Rm mc ms Q cells slots n kd R I pc lv (.int i :: st) := by
  subst hp; subst hi
  intro p e s m args below meth c Z X hZ H locs ls hN hW hS hl
  intro T0 hT XS
  have hz := jx_size XS hT X.2.2.2.2.2.2.2.2.2 hN hW
  have hN' := hN
  have hao : va_AO RX4 s := X.2.2.2.2.2.2.2.2.1.2.2.2.2.2.2.2.2.2.2.1
  refine (show W p l e Rm s m args below meth c H locs cells slots Z (F0 m pc ls (.int (nI mm) :: st)) from ?_) T0 hT XS
  refine W.anew X.1 X.2.1 X.2.2.2.2.2.1 (X.2.2.2.2.2.2.2.1 _ hw) (va_AO.use hao) rfl hd rfl (nI_pos (by omega)) (by rw [nI_clamp (by omega)]; omega) hcells (by rw [nI_clamp (by omega)]; exact hslots) fun cA kA comp f1 f2 f3 f4 => ?_
  have hcA : cA = E.2.1 3 := by
    obtain ⟨_, _, _, _, _, h1⟩ := ((X.2.2.2.2.2.2.2.2.1.1).2 3 (E.2.1 3, .object RX4) rfl).2
    exact Option.some.inj (f1.symm.trans h1)
  subst hcA
  rw [nI_clamp (by omega), hz]
  generalize hH1 : H.push ({ cls := E.2.1 3, slots := Array.replicate mm .null, vm := .none } : Cell) = H1
  have z1 : H1.size = E.2.2.1 + n + 1 := by rw [← hH1, Array.size_push, hz]
  have e1 : H1[E.2.2.1 + n]? = some (arrV (E.2.1 3) mm (fun _ => .null)) := by rw [← hH1, ← hz, Array.getElem?_push_size, ← arrV_new]
  have o1 : ∀ q : Nat, q < E.2.2.1 + n → H1[q]? = H[q]? := fun q hq => by rw [← hH1, Array.getElem?_push, if_neg (by rw [hz]; exact Nat.ne_of_lt hq)]
  have hk0 : ∀ (k : Nat) (x : Nat × va_E), ([] ++ va_pl (List.range' E.2.2.1 n) (jx_pf E kd R I))[k]? = some x → H1[x.1]? = H[x.1]? := fun k x hx => o1 x.1 (by rw [← hz]; exact (hW.2 k x hx).lt)
  refine (k p e s m args below meth c Z X hZ H1 locs ls (by omega) (jx_Wd_push hW (q := (10, mm)) (e := (.inl (E.2.1 3, mm, .inr (.inr (.inr (.inr (fun _ => none))))))) ((hW.2.kept hk0).app (fun k x hx => ?_)) ?_) ⟨by omega, fun x h1 h2 => (o1 x (by have := hS.1; omega)).trans (hS.2.1 x h1 h2), hS.2.2⟩ hl)
  · have hz2 : k < 1 := (List.getElem?_eq_some_iff.mp hx).1
    rw [show k = 0 by omega] at hx
    cases hx
    show H1[_]? = some (vp_cell _ _)
    rw [vp_cell_q]
    exact e1
  · simp [jx_cell]
theorem j_objInit {ix a : Nat} (hl1 : Cond.methodLink own ix objectInit ∈ jx_W) (hl2 : Cond.instanceMethod objectInit ∈ jx_W) (hl3 : Cond.code objectInit ⟨#[0xb1]⟩ 1 none ∈ jx_W) (hfr : 1 ≤ Rm.frames) (hlo : (st.map fun v => v.category).sum + 12 ≤ Rm.locals) (hd : decode cd pc = .ok (.invokespecial ix, 3)) (hp : pc + 3 = pc') (k : jx_J E l cd nL ret own ini Rm mc ms Q cells slots n kd R I pc' lv st) : jx_J E l cd nL ret own ini Rm mc ms Q cells slots n kd R I pc lv (.ref a :: st) := by
  subst hp
  intro p e s m args below meth c Z X hZ H locs ls hN hW hS hl
  exact W.objInit X.1 X.2.1 X.2.2.2.2.2.1 (X.2.2.2.2.2.2.2.1 _ hl1) (X.2.2.2.2.2.2.2.1 _ hl2) (X.2.2.2.2.2.2.2.1 _ hl3) rfl (by rw [X.2.2.2.2.1]; exact hl.1) rfl hd hfr (by show 2 * 0 + _ + 12 ≤ _; omega) (k p e s m args below meth c Z X hZ H locs ls hN hW hS hl)
end JR
end
section
theorem jx_good {w : Cond} (h : w ∈ jx_W) : (w.onTables && w.keeps) = true ∨ ∃ ty, w = .arrayClass ty := good_of_word (List.mem_filter.mp h).2
theorem jx_goodIn {w : Cond} (h : w ∈ jx_W) : GoodIn jx_W (w :: jx_W) := by
  intro v hv
  rcases List.mem_cons.mp hv with e | e
  · rw [e]; exact ⟨h, jx_good h⟩
  · exact ⟨e, jx_good e⟩
/-- a call's words: what the calling class links, what the callee is -/
def jx_pd (y : MethodName) (k : Nat) : Prop := y.cls ≠ "java/lang/invoke/MethodHandle" ∧ y.cls ≠ "java/lang/invoke/VarHandle" ∧ (parseMethodDescriptor y.desc).map (fun d => d.parameters.length) = some k
def jx_mV (own : String) (ix : Nat) (C : String) (y : MethodName) (cd : ByteArray) (nL : Nat) (ret : Option FieldType) (k : Nat) : Prop :=
  Cond.methodLink own ix y ∈ jx_W ∧ Cond.instanceMethod y ∈ jx_W ∧ Cond.selects C y y ∈ jx_W ∧ Cond.initialized y.cls ∈ jx_W ∧ Cond.code y cd nL ret ∈ jx_W ∧ jx_pd y k
def jx_mS (own : String) (ix : Nat) (y : MethodName) (cd : ByteArray) (nL : Nat) (ret : Option FieldType) (k : Nat) : Prop :=
  Cond.methodLink own ix y ∈ jx_W ∧ Cond.static y ∈ jx_W ∧ Cond.initialized y.cls ∈ jx_W ∧ Cond.code y cd nL ret ∈ jx_W ∧ jx_pd y k
def jx_mI (own : String) (ix : Nat) (y : MethodName) (cd : ByteArray) (nL : Nat) (k : Nat) : Prop :=
  Cond.methodLink own ix y ∈ jx_W ∧ Cond.instanceMethod y ∈ jx_W ∧ Cond.initialized y.cls ∈ jx_W ∧ Cond.code y cd nL none ∈ jx_W ∧ y.name = "<init>" ∧ jx_pd y k
def jx_mSN (own : String) (ix : Nat) (y : MethodName) (cd : ByteArray) (nL : Nat) (ret : Option FieldType) (k : Nat) : Prop :=
  (own, ix, y, RX5) ∈ jx_nm ∧ Cond.static y ∈ jx_W ∧ Cond.initialized y.cls ∈ jx_W ∧ Cond.code y cd nL ret ∈ jx_W ∧ jx_pd y k
def jx_mIN (own : String) (ix : Nat) (y : MethodName) (cd : ByteArray) (nL : Nat) (k : Nat) : Prop :=
  (own, ix, y, RX5) ∈ jx_nm ∧ Cond.instanceMethod y ∈ jx_W ∧ Cond.initialized y.cls ∈ jx_W ∧ Cond.code y cd nL none ∈ jx_W ∧ y.name = "<init>" ∧ jx_pd y k
theorem jx_blind {E : jx_E} {n : Nat} {kd : jx_K} {R : jx_R} {I : jx_I} {as : List Value} : FrameBlind (va_Pc as (fun U => jx_En E U U.heap ∧ U.heap.size = E.2.2.1 + n ∧ jx_Wd E n kd R I U.heap)) := by
  intro a U g mk h
  obtain ⟨e, h1, h2, h3⟩ := h
  exact ⟨e, jx_En.next (U := U.calling g mk a) h1 va_S.rf rfl (State.WarmedH.refl U), h2, h3⟩
theorem jx_after {E : jx_E} {l : Launch} {Rm : Room} {cells slots n mc1 ms1 : Nat} {p : Program} {e : Env} {s : State} {m : MethodId} {args : Array Value} {below : List Frame} {meth : Method} {c : Code} {H : Heap} {locs : List Loc} {Z : State → Prop} {pc : Nat} {ls : Array Slot} {st0 rest : List Value} {a : Array Value} {Q1 : jx_Q}
    (hr : va_Run p l e Rm s m args below meth c H locs cells slots mc1 ms1 (F0 m pc ls st0) rest (jx_Qc E mc1 Q1 a) (jx_A E)) (hz : H.size = E.2.2.1 + n) (hS : va_S (jx_A E) s.heap H locs)
    (kk : ∀ (v : Option Value) (n1 : Nat) (kd1 : jx_K) (R1 : jx_R) (I1 : jx_I) (H1 : Heap) (locs1 : List Loc), Q1 v n1 kd1 R1 I1 → n1 = n + mc1 → jx_Wd E n1 kd1 R1 I1 H1 → va_S (jx_A E) s.heap H1 locs1 → W p l e Rm s m args below meth c H1 locs1 (cells + mc1) (slots + ms1) Z (F0 m (pc + 3) ls (v.toList ++ rest))) : W p l e Rm s m args below meth c H locs cells slots Z (F0 m pc ls st0) := by
  intro T hT X
  obtain ⟨v, st₀, t, T', L, h0, X', hL, e1, e2, ⟨⟨v', n1, kd1, R1, I1, hv, hQ, hn1, hW1⟩, hq, hk⟩, st⟩ := hr T hT X
  cases hv
  rw [h0] at hq hk hn1
  obtain ⟨t2, a1, b1⟩ := kk v n1 kd1 R1 I1 T'.heap (locs ++ L) hQ (by omega) (by rw [e1]; exact hW1)
    ⟨Nat.le_trans hS.1 (by rw [e1]; exact hq), fun q h1 h2 => by rw [e1, hk q (Nat.lt_of_lt_of_le h1 hS.1) h2]; exact hS.2.1 q h1 h2, fun q hq => by
      rcases List.mem_append.mp hq with h | h
      · exact hS.2.2 q h
      · exact hL q h⟩ T' rfl X'
  exact ⟨t2, st t2 a1, b1⟩
section JR
variable {E : jx_E} {l : Launch} {cd : ByteArray} {nL : Nat} {ret : Option FieldType} {own : String} {ini : Bool} {Rm : Room} {mc ms : Nat} {Q : jx_Q} {cells slots n : Nat} {kd : jx_K} {R : jx_R} {I : jx_I} {pc pc' : Nat} {lv : List (Option Value)} {st : List Value}
variable {y : MethodName} {cd1 : ByteArray} {nL1 ix k1 d1 mc1 ms1 : Nat} {ret1 : Option FieldType} {As rest : List Value} {Q1 : jx_Q}
theorem j_callV {C : String} {T : u_T} {b ci mm N : Nat} (hm : jx_mV own ix C y cd1 nL1 ret1 k1) (hC : jx_Ct E l y cd1 nL1 ret1 d1 mc1 ms1 n kd R I (.ref b :: As) Q1) (hk : kd b = (ci, mm)) (hc7 : ci < 7) (hc : vwCl[ci]? = some (C, T, N)) (hs : As.reverse ++ .ref b :: rest = st) (hl1 : As.length = k1) (hR : d1 + 1 ≤ Rm.frames ∧ 8 + (nL1 + 11) + 32 * d1 ≤ Rm.locals) (hf : cells + mc1 ≤ Rm.cells ∧ slots + ms1 ≤ Rm.slots) (hcat : (rest.map fun v => v.category).sum ≤ 8) (hd : decode cd pc = .ok (.invokevirtual ix, 3)) (hp : pc + 3 = pc') (k : ∀ (v : Option Value) (n1 : Nat) (kd1 : jx_K) (R1 : jx_R) (I1 : jx_I), Q1 v n1 kd1 R1 I1 → n1 = n + mc1 → jx_J E l cd nL ret own ini Rm mc ms Q (cells + mc1) (slots + ms1) n1 kd1 R1 I1 pc' lv (v.toList ++ rest)) : jx_J E l cd nL ret own ini Rm mc ms Q cells slots n kd R I pc lv st := by
  obtain ⟨w1, w2, w3, w4, w5, w6⟩ := hm
  subst hp; subst hs
  intro p e s m args below meth c Z X hZ H locs ls hN hW hS hl
  intro T0 hT XS
  have hz := jx_size XS hT X.2.2.2.2.2.2.2.2.2 hN hW
  refine (show W p l e Rm s m args below meth c H locs cells slots Z (F0 m pc ls _) from ?_) T0 hT XS
  obtain ⟨q0, hq0⟩ := jx_at hW (a := b) (by rw [hk]; show ci ≤ 10; omega)
  rw [jx_pf_obj hc7 hk] at hq0
  refine jx_after (va_runV (Ts := jx_W) (As := As) (rest := rest) ⟨X.1, X.2.1, X.2.2.2.2.1, X.2.2.2.2.2.1, X.2.2.2.2.2.2.2.1⟩ hC ⟨callB_of k1 (X.2.2.2.2.2.2.2.1) (jx_goodIn w5) rfl rfl rfl (X.2.2.2.2.2.2.2.1 _ w4) (X.2.2.2.2.2.2.2.1 _ w1) w6 hR, X.2.2.2.2.2.2.2.1 _ w2, X.2.2.2.2.2.2.2.1 _ w3⟩ ⟨jx_blind, va_recv X.2.2.2.2.2.2.2.2.1.1 hW.2 hc hq0, fun U hU hWm => ⟨rfl, X.2.2.2.2.2.2.2.2.1.next hS hU hWm, by rw [hU]; exact hz, by rw [hU]; exact hW⟩⟩ rfl hl1 (hl.1.trans rfl) rfl (lv_room hcat) hd hf) hz hS (fun v n1 kd1 R1 I1 H1 locs1 hQ hn hW1 hS1 => ?_)
  exact k v n1 kd1 R1 I1 hQ hn p e s m args below meth c Z X hZ H1 locs1 ls (by omega) hW1 hS1 hl
theorem j_callS (hm : jx_mS own ix y cd1 nL1 ret1 k1) (hC : jx_Ct E l y cd1 nL1 ret1 d1 mc1 ms1 n kd R I As Q1) (hs : As.reverse ++ rest = st) (hl1 : As.length = k1) (hR : d1 + 1 ≤ Rm.frames ∧ 8 + (nL1 + 11) + 32 * d1 ≤ Rm.locals) (hf : cells + mc1 ≤ Rm.cells ∧ slots + ms1 ≤ Rm.slots) (hcat : (rest.map fun v => v.category).sum ≤ 8) (hd : decode cd pc = .ok (.invokestatic ix, 3)) (hp : pc + 3 = pc') (k : ∀ (v : Option Value) (n1 : Nat) (kd1 : jx_K) (R1 : jx_R) (I1 : jx_I), Q1 v n1 kd1 R1 I1 → n1 = n + mc1 → jx_J E l cd nL ret own ini Rm mc ms Q (cells + mc1) (slots + ms1) n1 kd1 R1 I1 pc' lv (v.toList ++ rest)) : jx_J E l cd nL ret own ini Rm mc ms Q cells slots n kd R I pc lv st := by
  obtain ⟨w1, w2, w4, w5, w6⟩ := hm
  subst hp; subst hs
  intro p e s m args below meth c Z X hZ H locs ls hN hW hS hl
  intro T0 hT XS
  have hz := jx_size XS hT X.2.2.2.2.2.2.2.2.2 hN hW
  refine (show W p l e Rm s m args below meth c H locs cells slots Z (F0 m pc ls _) from ?_) T0 hT XS
  refine jx_after (va_runS (Ts := jx_W) (As := As) (rest := rest) ⟨X.1, X.2.1, X.2.2.2.2.1, X.2.2.2.2.2.1, X.2.2.2.2.2.2.2.1⟩ hC ⟨callB_of k1 (X.2.2.2.2.2.2.2.1) (jx_goodIn w5) rfl rfl rfl (X.2.2.2.2.2.2.2.1 _ w4) (X.2.2.2.2.2.2.2.1 _ w1) w6 hR, X.2.2.2.2.2.2.2.1 _ w2⟩ ⟨jx_blind, fun U hU hWm => ⟨rfl, X.2.2.2.2.2.2.2.2.1.next hS hU hWm, by rw [hU]; exact hz, by rw [hU]; exact hW⟩⟩ rfl hl1 (hl.1.trans rfl) rfl (lv_room hcat) hd hf) hz hS (fun v n1 kd1 R1 I1 H1 locs1 hQ hn hW1 hS1 => ?_)
  exact k v n1 kd1 R1 I1 hQ hn p e s m args below meth c Z X hZ H1 locs1 ls (by omega) hW1 hS1 hl
theorem j_callI {b : Nat} (hm : jx_mI own ix y cd1 nL1 k1) (hC : jx_Ct E l y cd1 nL1 none d1 mc1 ms1 n kd R I (.ref b :: As) Q1) (hs : As.reverse ++ .ref b :: rest = st) (hl1 : As.length = k1) (hR : d1 + 1 ≤ Rm.frames ∧ 8 + (nL1 + 11) + 32 * d1 ≤ Rm.locals) (hf : cells + mc1 ≤ Rm.cells ∧ slots + ms1 ≤ Rm.slots) (hcat : (rest.map fun v => v.category).sum ≤ 8) (hd : decode cd pc = .ok (.invokespecial ix, 3)) (hp : pc + 3 = pc') (k : ∀ (v : Option Value) (n1 : Nat) (kd1 : jx_K) (R1 : jx_R) (I1 : jx_I), Q1 v n1 kd1 R1 I1 → n1 = n + mc1 → jx_J E l cd nL ret own ini Rm mc ms Q (cells + mc1) (slots + ms1) n1 kd1 R1 I1 pc' lv (v.toList ++ rest)) : jx_J E l cd nL ret own ini Rm mc ms Q cells slots n kd R I pc lv st := by
  obtain ⟨w1, w2, w4, w5, w7, w6⟩ := hm
  subst hp; subst hs
  intro p e s m args below meth c Z X hZ H locs ls hN hW hS hl
  intro T0 hT XS
  have hz := jx_size XS hT X.2.2.2.2.2.2.2.2.2 hN hW
  refine (show W p l e Rm s m args below meth c H locs cells slots Z (F0 m pc ls _) from ?_) T0 hT XS
  refine jx_after (va_runI (Ts := jx_W) (As := As) (rest := rest) ⟨X.1, X.2.1, X.2.2.2.2.1, X.2.2.2.2.2.1, X.2.2.2.2.2.2.2.1⟩ hC ⟨callB_of k1 (X.2.2.2.2.2.2.2.1) (jx_goodIn w5) rfl rfl rfl (X.2.2.2.2.2.2.2.1 _ w4) (X.2.2.2.2.2.2.2.1 _ w1) w6 hR, w7, X.2.2.2.2.2.2.2.1 _ w2⟩ ⟨jx_blind, fun U hU hWm => ⟨rfl, X.2.2.2.2.2.2.2.2.1.next hS hU hWm, by rw [hU]; exact hz, by rw [hU]; exact hW⟩⟩ rfl hl1 (hl.1.trans rfl) rfl (lv_room hcat) hd hf) hz hS (fun v n1 kd1 R1 I1 H1 locs1 hQ hn hW1 hS1 => ?_)
  exact k v n1 kd1 R1 I1 hQ hn p e s m args below meth c Z X hZ H1 locs1 ls (by omega) hW1 hS1 hl
theorem j_callSN (hm : jx_mSN own ix y cd1 nL1 ret1 k1) (hC : jx_Ct E l y cd1 nL1 ret1 d1 mc1 ms1 n kd R I As Q1) (hs : As.reverse ++ rest = st) (hl1 : As.length = k1) (hR : d1 + 1 ≤ Rm.frames ∧ 8 + (nL1 + 11) + 32 * d1 ≤ Rm.locals) (hf : cells + mc1 ≤ Rm.cells ∧ slots + ms1 ≤ Rm.slots) (hcat : (rest.map fun v => v.category).sum ≤ 8) (hd : decode cd pc = .ok (.invokestatic ix, 3)) (hp : pc + 3 = pc') (k : ∀ (v : Option Value) (n1 : Nat) (kd1 : jx_K) (R1 : jx_R) (I1 : jx_I), Q1 v n1 kd1 R1 I1 → n1 = n + mc1 → jx_J E l cd nL ret own ini Rm mc ms Q (cells + mc1) (slots + ms1) n1 kd1 R1 I1 pc' lv (v.toList ++ rest)) : jx_J E l cd nL ret own ini Rm mc ms Q cells slots n kd R I pc lv st := by
  obtain ⟨w1, w2, w4, w5, w6⟩ := hm
  subst hp; subst hs
  intro p e s m args below meth c Z X hZ H locs ls hN hW hS hl
  intro T0 hT XS
  have hz := jx_size XS hT X.2.2.2.2.2.2.2.2.2 hN hW
  refine (show W p l e Rm s m args below meth c H locs cells slots Z (F0 m pc ls _) from ?_) T0 hT XS
  refine jx_after (va_runSN (Ts := jx_W) (As := As) (rest := rest) ⟨X.1, X.2.1, X.2.2.2.2.1, X.2.2.2.2.2.1, X.2.2.2.2.2.2.2.1⟩ hC ⟨va_cnB k1 (X.2.2.2.2.2.2.2.1) (jx_goodIn w5) rfl rfl rfl (X.2.2.2.2.2.2.2.2.1.2.2.2.2.2.2.2.1 _ w1) (X.2.2.2.2.2.2.2.1 _ w4) w6 hR, X.2.2.2.2.2.2.2.1 _ w2, trivial⟩ ⟨jx_blind, fun U hU hWm => ⟨rfl, X.2.2.2.2.2.2.2.2.1.next hS hU hWm, by rw [hU]; exact hz, by rw [hU]; exact hW⟩⟩ rfl hl1 (hl.1.trans rfl) rfl (lv_room hcat) hd hf) hz hS (fun v n1 kd1 R1 I1 H1 locs1 hQ hn hW1 hS1 => ?_)
  exact k v n1 kd1 R1 I1 hQ hn p e s m args below meth c Z X hZ H1 locs1 ls (by omega) hW1 hS1 hl
theorem j_callIN {b : Nat} (hm : jx_mIN own ix y cd1 nL1 k1) (hC : jx_Ct E l y cd1 nL1 none d1 mc1 ms1 n kd R I (.ref b :: As) Q1) (hs : As.reverse ++ .ref b :: rest = st) (hl1 : As.length = k1) (hR : d1 + 1 ≤ Rm.frames ∧ 8 + (nL1 + 11) + 32 * d1 ≤ Rm.locals) (hf : cells + mc1 ≤ Rm.cells ∧ slots + ms1 ≤ Rm.slots) (hcat : (rest.map fun v => v.category).sum ≤ 8) (hd : decode cd pc = .ok (.invokespecial ix, 3)) (hp : pc + 3 = pc') (k : ∀ (v : Option Value) (n1 : Nat) (kd1 : jx_K) (R1 : jx_R) (I1 : jx_I), Q1 v n1 kd1 R1 I1 → n1 = n + mc1 → jx_J E l cd nL ret own ini Rm mc ms Q (cells + mc1) (slots + ms1) n1 kd1 R1 I1 pc' lv (v.toList ++ rest)) : jx_J E l cd nL ret own ini Rm mc ms Q cells slots n kd R I pc lv st := by
  obtain ⟨w1, w2, w4, w5, w7, w6⟩ := hm
  subst hp; subst hs
  intro p e s m args below meth c Z X hZ H locs ls hN hW hS hl
  intro T0 hT XS
  have hz := jx_size XS hT X.2.2.2.2.2.2.2.2.2 hN hW
  refine (show W p l e Rm s m args below meth c H locs cells slots Z (F0 m pc ls _) from ?_) T0 hT XS
  refine jx_after (va_runIN (Ts := jx_W) (As := As) (rest := rest) ⟨X.1, X.2.1, X.2.2.2.2.1, X.2.2.2.2.2.1, X.2.2.2.2.2.2.2.1⟩ hC ⟨va_cnB k1 (X.2.2.2.2.2.2.2.1) (jx_goodIn w5) rfl rfl rfl (X.2.2.2.2.2.2.2.2.1.2.2.2.2.2.2.2.1 _ w1) (X.2.2.2.2.2.2.2.1 _ w4) w6 hR, w7, X.2.2.2.2.2.2.2.1 _ w2⟩ ⟨jx_blind, fun U hU hWm => ⟨rfl, X.2.2.2.2.2.2.2.2.1.next hS hU hWm, by rw [hU]; exact hz, by rw [hU]; exact hW⟩⟩ rfl hl1 (hl.1.trans rfl) rfl (lv_room hcat) hd hf) hz hS (fun v n1 kd1 R1 I1 H1 locs1 hQ hn hW1 hS1 => ?_)
  exact k v n1 kd1 R1 I1 hQ hn p e s m args below meth c Z X hZ H1 locs1 ls (by omega) hW1 hS1 hl
theorem j_max {x y : Int32} (hl1 : Cond.methodLink own ix Lib.Math.max.name ∈ jx_W) (hl2 : Cond.static Lib.Math.max.name ∈ jx_W) (hl3 : Cond.initialized "java/lang/Math" ∈ jx_W) (hl4 : Cond.code Lib.Math.max.name Lib.Math.max.code 2 (some .int) ∈ jx_W) (hfr : 1 ≤ Rm.frames) (hlo : (st.map fun v => v.category).sum + 13 ≤ Rm.locals) (hf : cells ≤ Rm.cells ∧ slots ≤ Rm.slots) (hd : decode cd pc = .ok (.invokestatic ix, 3)) (hp : pc + 3 = pc') (k : jx_J E l cd nL ret own ini Rm mc ms Q cells slots n kd R I pc' lv (.int (if x < y then y else x) :: st)) : jx_J E l cd nL ret own ini Rm mc ms Q cells slots n kd R I pc lv (.int y :: .int x :: st) := by
  subst hp
  intro p e s m args below meth c Z X hZ H locs ls hN hW hS hl
  exact va_mmax X.1 X.2.1 (X.2.2.2.2.1.trans hl.1.symm) X.2.2.2.2.2.1 (X.2.2.2.2.2.2.2.1 _ hl1) (X.2.2.2.2.2.2.2.1 _ hl2) (X.2.2.2.2.2.2.2.1 _ hl3) (X.2.2.2.2.2.2.2.1 _ hl4) hfr hlo hf.1 hf.2 hd (k p e s m args below meth c Z X hZ H locs ls hN hW hS hl)
theorem j_min {x y : Int32} (hl1 : Cond.methodLink own ix Lib.Math.min.name ∈ jx_W) (hl2 : Cond.static Lib.Math.min.name ∈ jx_W) (hl3 : Cond.initialized "java/lang/Math" ∈ jx_W) (hl4 : Cond.code Lib.Math.min.name Lib.Math.min.code 2 (some .int) ∈ jx_W) (hfr : 1 ≤ Rm.frames) (hlo : (st.map fun v => v.category).sum + 13 ≤ Rm.locals) (hf : cells ≤ Rm.cells ∧ slots ≤ Rm.slots) (hd : decode cd pc = .ok (.invokestatic ix, 3)) (hp : pc + 3 = pc') (k : jx_J E l cd nL ret own ini Rm mc ms Q cells slots n kd R I pc' lv (.int (if y < x then y else x) :: st)) : jx_J E l cd nL ret own ini Rm mc ms Q cells slots n kd R I pc lv (.int y :: .int x :: st) := by
  subst hp
  intro p e s m args below meth c Z X hZ H locs ls hN hW hS hl
  exact va_mmin X.1 X.2.1 (X.2.2.2.2.1.trans hl.1.symm) X.2.2.2.2.2.1 (X.2.2.2.2.2.2.2.1 _ hl1) (X.2.2.2.2.2.2.2.1 _ hl2) (X.2.2.2.2.2.2.2.1 _ hl3) (X.2.2.2.2.2.2.2.1 _ hl4) hfr hlo hf.1 hf.2 hd (k p e s m args below meth c Z X hZ H locs ls hN hW hS hl)
theorem j_copyI {a b ma mb sp dp nn : Nat} (hl1 : Cond.methodLink own ix arraycopyName ∈ jx_W) (hl2 : Cond.native arraycopyName ∈ jx_W) (hl3 : Cond.static arraycopyName ∈ jx_W) (hl4 : Cond.initialized "java/lang/System" ∈ jx_W) (hka : kd a = (7, ma)) (hkb : kd b = (7, mb)) (hm : ma < 2147483648) (hm2 : mb < 2147483648) (h4 : sp + nn ≤ ma) (h5 : dp + nn ≤ mb) (hfr : 1 ≤ Rm.frames) (hlo : (st.map fun v => v.category).sum + (nativeFrameWords "java/lang/System" "arraycopy" 5 + 11) ≤ Rm.locals) (hd : decode cd pc = .ok (.invokestatic ix, 3)) (hp : pc + 3 = pc')
    (k : jx_J E l cd nL ret own ini Rm mc ms Q cells slots n kd R (va_up I b (va_cpy (I a) (I b) sp dp nn)) pc' lv st) : jx_J E l cd nL ret own ini Rm mc ms Q cells slots n kd R I pc lv (.int (nI nn) :: .int (nI dp) :: .ref b :: .int (nI sp) :: .ref a :: st) := by
  subst hp
  intro p e s m args below meth c Z X hZ H locs ls hN hW hS hl
  obtain ⟨q0, hq0⟩ := jx_at hW (a := a) (by rw [hka]; show 7 ≤ 10; omega)
  obtain ⟨q1, hq1⟩ := jx_at hW (a := b) (by rw [hkb]; show 7 ≤ 10; omega)
  have hq2 := hq1
  rw [jx_pf_arrI hka] at hq0
  rw [jx_pf_arrI hkb] at hq1
  refine va_copyi X.1 X.2.1 (X.2.2.2.2.1.trans hl.1.symm) X.2.2.2.2.2.1 (X.2.2.2.2.2.2.2.1 _ hl1) (X.2.2.2.2.2.2.2.1 _ hl2) (X.2.2.2.2.2.2.2.1 _ hl3) (X.2.2.2.2.2.2.2.1 _ hl4) X.2.2.2.2.2.2.2.2.1.1 hW.2 (jx_D E n _) hS q0 q1 0 0 hq0 hq1 rfl rfl rfl (nI_pos (by omega)) (nI_pos (by omega)) (nI_pos (by omega)) (by rw [nI_clamp (by omega), nI_clamp (by omega)]; exact h4) (by rw [nI_clamp (by omega), nI_clamp (by omega)]; exact h5) (fun i _ => rfl) hfr hlo hd (fun H1 locs1 hP1 _ hS1 => ?_)
  refine k p e s m args below meth c Z X hZ H1 locs1 ls hN ?_ hS1 hl
  rw [nI_clamp (by omega), nI_clamp (by omega), nI_clamp (by omega)] at hP1
  refine jx_Wd_set hW (by rw [hkb]; show 7 ≤ 10; omega) hq2 hP1 (fun x => ?_)
  by_cases hx : x = b
  · subst hx
    simp [va_up, jx_pf, jx_cell, hkb]
  · simp [va_up, jx_pf, hx]
theorem j_gsLeast (how : own = RX4) (hd : decode cd pc = .ok (.getstatic 73, 3)) (hp : pc + 3 = pc') (k : jx_J E l cd nL ret own ini Rm mc ms Q cells slots n kd R I pc' lv (.ref (E.2.2.2.1 10) :: st)) : jx_J E l cd nL ret own ini Rm mc ms Q cells slots n kd R I pc lv st := by
  subst hp; subst how
  intro p e s m args below meth c Z X hZ H locs ls hN hW hS hl
  have hE := X.2.2.2.2.2.2.2.2.1
  exact va_getsN (C := RX5) X.1 X.2.1 hE.2.2.2.1.1 hS X.2.2.2.2.2.1 (va_Nw.use rfl hE.2.2.2.2.2.2.2.2.1.1) (fun _ h => h) hd (k p e s m args below meth c Z X hZ H locs ls hN hW hS hl)
theorem j_gsMost (how : own = RX4) (hd : decode cd pc = .ok (.getstatic 77, 3)) (hp : pc + 3 = pc') (k : jx_J E l cd nL ret own ini Rm mc ms Q cells slots n kd R I pc' lv (.ref (E.2.2.2.1 11) :: st)) : jx_J E l cd nL ret own ini Rm mc ms Q cells slots n kd R I pc lv st := by
  subst hp; subst how
  intro p e s m args below meth c Z X hZ H locs ls hN hW hS hl
  have hE := X.2.2.2.2.2.2.2.2.1
  exact va_getsN (C := RX5) X.1 X.2.1 hE.2.2.2.2.1.1 hS X.2.2.2.2.2.1 (va_Nw.use rfl hE.2.2.2.2.2.2.2.2.1.2) (fun _ h => h) hd (k p e s m args below meth c Z X hZ H locs ls hN hW hS hl)
theorem j_tLeast {i : Int32} {j : Nat} (hi : i = nI j) (hj : j < 7) (hd : decode cd pc = .ok (.iaload, 1)) (hp : pc + 1 = pc') (k : jx_J E l cd nL ret own ini Rm mc ms Q cells slots n kd R I pc' lv (.int (jx_least j) :: st)) : jx_J E l cd nL ret own ini Rm mc ms Q cells slots n kd R I pc lv (.int i :: .ref (E.2.2.2.1 10) :: st) := by
  subst hp; subst hi
  intro p e s m args below meth c Z X hZ H locs ls hN hW hS hl
  have hE := X.2.2.2.2.2.2.2.2.1
  exact va_ti X.1 X.2.1 hE.2.2.2.1.2 hS (vp_in_nI hj (by omega)) (by rw [nI_clamp (by omega)]) hd (k p e s m args below meth c Z X hZ H locs ls hN hW hS hl)
theorem j_tMost {i : Int32} {j : Nat} (hi : i = nI j) (hj : j < 7) (hd : decode cd pc = .ok (.iaload, 1)) (hp : pc + 1 = pc') (k : jx_J E l cd nL ret own ini Rm mc ms Q cells slots n kd R I pc' lv (.int (jx_most j) :: st)) : jx_J E l cd nL ret own ini Rm mc ms Q cells slots n kd R I pc lv (.int i :: .ref (E.2.2.2.1 11) :: st) := by
  subst hp; subst hi
  intro p e s m args below meth c Z X hZ H locs ls hN hW hS hl
  have hE := X.2.2.2.2.2.2.2.2.1
  exact va_ti X.1 X.2.1 hE.2.2.2.2.1.2 hS (vp_in_nI hj (by omega)) (by rw [nI_clamp (by omega)]) hd (k p e s m args below meth c Z X hZ H locs ls hN hW hS hl)
end JR
end
section
theorem jwX0 : ∀ w ∈ u_ws RX0 TX0 6, w ∈ jx_W := by decide +kernel
theorem jwX1 : ∀ w ∈ u_ws RX1 TX1 4, w ∈ jx_W := by decide +kernel
theorem jwX2 : ∀ w ∈ u_ws RX2 TX2 11, w ∈ jx_W := by decide +kernel
theorem jwX3 : ∀ w ∈ u_ws RX3 TX3 8, w ∈ jx_W := by decide +kernel
theorem jwX4 : ∀ w ∈ u_ws RX4 TX4 9, w ∈ jx_W := by decide +kernel
theorem jwX5 : ∀ w ∈ u_ws RX5 TX5 6, w ∈ jx_W := by decide +kernel
theorem jwX6 : ∀ w ∈ u_ws RX6 TX6 11, w ∈ jx_W := by decide +kernel
theorem f_X3_11 : jx_fl RX3 11 3 0 true (.array .char) true := ⟨RX3, TX3, 8, tyX3, by omega, rfl, jwX3, tyX3_ok, nmX3, by omega, rfl, k_27, rfl, by decide +kernel, rfl, rfl⟩
theorem f_X3_15 : jx_fl RX3 15 3 1 true (.array .int) true := ⟨RX3, TX3, 8, tyX3, by omega, rfl, jwX3, tyX3_ok, nmX3, by omega, rfl, k_28, rfl, by decide +kernel, rfl, rfl⟩
theorem f_X5_212 : jx_fl RX5 212 3 1 true (.array .int) true := ⟨RX3, TX3, 8, tyX3, by omega, rfl, jwX3, tyX3_ok, nmX3, by omega, rfl, k_29, rfl, by decide +kernel, rfl, rfl⟩
theorem f_X3_19 : jx_fl RX3 19 3 2 true (.array .int) true := ⟨RX3, TX3, 8, tyX3, by omega, rfl, jwX3, tyX3_ok, nmX3, by omega, rfl, k_30, rfl, by decide +kernel, rfl, rfl⟩
theorem f_X5_206 : jx_fl RX5 206 3 2 true (.array .int) true := ⟨RX3, TX3, 8, tyX3, by omega, rfl, jwX3, tyX3_ok, nmX3, by omega, rfl, k_31, rfl, by decide +kernel, rfl, rfl⟩
theorem f_X3_22 : jx_fl RX3 22 3 3 true (.array .int) true := ⟨RX3, TX3, 8, tyX3, by omega, rfl, jwX3, tyX3_ok, nmX3, by omega, rfl, k_32, rfl, by decide +kernel, rfl, rfl⟩
theorem f_X5_209 : jx_fl RX5 209 3 3 true (.array .int) true := ⟨RX3, TX3, 8, tyX3, by omega, rfl, jwX3, tyX3_ok, nmX3, by omega, rfl, k_33, rfl, by decide +kernel, rfl, rfl⟩
theorem f_X3_25 : jx_fl RX3 25 3 4 false .int false := ⟨RX3, TX3, 8, tyX3, by omega, rfl, jwX3, tyX3_ok, nmX3, by omega, rfl, k_34, rfl, by decide +kernel, rfl, rfl⟩
theorem f_X3_32 : jx_fl RX3 32 3 5 false .int false := ⟨RX3, TX3, 8, tyX3, by omega, rfl, jwX3, tyX3_ok, nmX3, by omega, rfl, k_35, rfl, by decide +kernel, rfl, rfl⟩
theorem f_X5_172 : jx_fl RX5 172 3 5 false .int false := ⟨RX3, TX3, 8, tyX3, by omega, rfl, jwX3, tyX3_ok, nmX3, by omega, rfl, k_36, rfl, by decide +kernel, rfl, rfl⟩
theorem f_X3_29 : jx_fl RX3 29 3 6 false .int false := ⟨RX3, TX3, 8, tyX3, by omega, rfl, jwX3, tyX3_ok, nmX3, by omega, rfl, k_37, rfl, by decide +kernel, rfl, rfl⟩
theorem f_X5_169 : jx_fl RX5 169 3 6 false .int false := ⟨RX3, TX3, 8, tyX3, by omega, rfl, jwX3, tyX3_ok, nmX3, by omega, rfl, k_38, rfl, by decide +kernel, rfl, rfl⟩
theorem f_X3_51 : jx_fl RX3 51 3 7 false .int false := ⟨RX3, TX3, 8, tyX3, by omega, rfl, jwX3, tyX3_ok, nmX3, by omega, rfl, k_39, rfl, by decide +kernel, rfl, rfl⟩
theorem f_X0_9 : jx_fl RX0 9 0 0 true (.array .int) true := ⟨RX0, TX0, 6, tyX0, by omega, rfl, jwX0, tyX0_ok, nmX0, by omega, rfl, k_54, rfl, by decide +kernel, rfl, rfl⟩
theorem f_X0_15 : jx_fl RX0 15 0 1 false .int false := ⟨RX0, TX0, 6, tyX0, by omega, rfl, jwX0, tyX0_ok, nmX0, by omega, rfl, k_55, rfl, by decide +kernel, rfl, rfl⟩
theorem f_X4_104 : jx_fl RX4 104 0 1 false .int false := ⟨RX0, TX0, 6, tyX0, by omega, rfl, jwX0, tyX0_ok, nmX0, by omega, rfl, k_56, rfl, by decide +kernel, rfl, rfl⟩
theorem f_X0_19 : jx_fl RX0 19 0 2 false .int false := ⟨RX0, TX0, 6, tyX0, by omega, rfl, jwX0, tyX0_ok, nmX0, by omega, rfl, k_57, rfl, by decide +kernel, rfl, rfl⟩
theorem f_X4_107 : jx_fl RX4 107 0 2 false .int false := ⟨RX0, TX0, 6, tyX0, by omega, rfl, jwX0, tyX0_ok, nmX0, by omega, rfl, k_58, rfl, by decide +kernel, rfl, rfl⟩
theorem f_X0_22 : jx_fl RX0 22 0 3 false .int false := ⟨RX0, TX0, 6, tyX0, by omega, rfl, jwX0, tyX0_ok, nmX0, by omega, rfl, k_59, rfl, by decide +kernel, rfl, rfl⟩
theorem f_X4_110 : jx_fl RX4 110 0 3 false .int false := ⟨RX0, TX0, 6, tyX0, by omega, rfl, jwX0, tyX0_ok, nmX0, by omega, rfl, k_60, rfl, by decide +kernel, rfl, rfl⟩
theorem f_X0_31 : jx_fl RX0 31 0 4 false .boolean false := ⟨RX0, TX0, 6, tyX0, by omega, rfl, jwX0, tyX0_ok, nmX0, by omega, rfl, k_61, rfl, by decide +kernel, rfl, rfl⟩
theorem f_X5_89 : jx_fl RX5 89 0 4 false .boolean false := ⟨RX0, TX0, 6, tyX0, by omega, rfl, jwX0, tyX0_ok, nmX0, by omega, rfl, k_62, rfl, by decide +kernel, rfl, rfl⟩
theorem f_X4_166 : jx_fl RX4 166 0 4 false .boolean false := ⟨RX0, TX0, 6, tyX0, by omega, rfl, jwX0, tyX0_ok, nmX0, by omega, rfl, k_63, rfl, by decide +kernel, rfl, rfl⟩
theorem f_X0_35 : jx_fl RX0 35 0 5 false .int false := ⟨RX0, TX0, 6, tyX0, by omega, rfl, jwX0, tyX0_ok, nmX0, by omega, rfl, k_64, rfl, by decide +kernel, rfl, rfl⟩
theorem f_X4_169 : jx_fl RX4 169 0 5 false .int false := ⟨RX0, TX0, 6, tyX0, by omega, rfl, jwX0, tyX0_ok, nmX0, by omega, rfl, k_65, rfl, by decide +kernel, rfl, rfl⟩
theorem f_X1_9 : jx_fl RX1 9 1 0 true (.array .int) true := ⟨RX1, TX1, 4, tyX1, by omega, rfl, jwX1, tyX1_ok, nmX1, by omega, rfl, k_71, rfl, by decide +kernel, rfl, rfl⟩
theorem f_X1_15 : jx_fl RX1 15 1 1 true (.array .int) true := ⟨RX1, TX1, 4, tyX1, by omega, rfl, jwX1, tyX1_ok, nmX1, by omega, rfl, k_72, rfl, by decide +kernel, rfl, rfl⟩
theorem f_X1_18 : jx_fl RX1 18 1 2 true (.array .int) true := ⟨RX1, TX1, 4, tyX1, by omega, rfl, jwX1, tyX1_ok, nmX1, by omega, rfl, k_73, rfl, by decide +kernel, rfl, rfl⟩
theorem f_X1_27 : jx_fl RX1 27 1 3 false .int false := ⟨RX1, TX1, 4, tyX1, by omega, rfl, jwX1, tyX1_ok, nmX1, by omega, rfl, k_74, rfl, by decide +kernel, rfl, rfl⟩
theorem f_X5_125 : jx_fl RX5 125 1 3 false .int false := ⟨RX1, TX1, 4, tyX1, by omega, rfl, jwX1, tyX1_ok, nmX1, by omega, rfl, k_75, rfl, by decide +kernel, rfl, rfl⟩
theorem f_X2_9 : jx_fl RX2 9 2 0 true (.array .int) true := ⟨RX2, TX2, 11, tyX2, by omega, rfl, jwX2, tyX2_ok, nmX2, by omega, rfl, k_80, rfl, by decide +kernel, rfl, rfl⟩
theorem f_X4_80 : jx_fl RX4 80 2 0 true (.array .int) true := ⟨RX2, TX2, 11, tyX2, by omega, rfl, jwX2, tyX2_ok, nmX2, by omega, rfl, k_81, rfl, by decide +kernel, rfl, rfl⟩
theorem f_X2_15 : jx_fl RX2 15 2 1 true (.array .int) true := ⟨RX2, TX2, 11, tyX2, by omega, rfl, jwX2, tyX2_ok, nmX2, by omega, rfl, k_82, rfl, by decide +kernel, rfl, rfl⟩
theorem f_X2_18 : jx_fl RX2 18 2 2 false .int false := ⟨RX2, TX2, 11, tyX2, by omega, rfl, jwX2, tyX2_ok, nmX2, by omega, rfl, k_83, rfl, by decide +kernel, rfl, rfl⟩
theorem f_X2_22 : jx_fl RX2 22 2 3 false .int false := ⟨RX2, TX2, 11, tyX2, by omega, rfl, jwX2, tyX2_ok, nmX2, by omega, rfl, k_84, rfl, by decide +kernel, rfl, rfl⟩
theorem f_X4_101 : jx_fl RX4 101 2 3 false .int false := ⟨RX2, TX2, 11, tyX2, by omega, rfl, jwX2, tyX2_ok, nmX2, by omega, rfl, k_85, rfl, by decide +kernel, rfl, rfl⟩
theorem f_X2_25 : jx_fl RX2 25 2 4 false .int false := ⟨RX2, TX2, 11, tyX2, by omega, rfl, jwX2, tyX2_ok, nmX2, by omega, rfl, k_86, rfl, by decide +kernel, rfl, rfl⟩
theorem f_X4_98 : jx_fl RX4 98 2 4 false .int false := ⟨RX2, TX2, 11, tyX2, by omega, rfl, jwX2, tyX2_ok, nmX2, by omega, rfl, k_87, rfl, by decide +kernel, rfl, rfl⟩
theorem f_X2_28 : jx_fl RX2 28 2 5 false .boolean false := ⟨RX2, TX2, 11, tyX2, by omega, rfl, jwX2, tyX2_ok, nmX2, by omega, rfl, k_88, rfl, by decide +kernel, rfl, rfl⟩
theorem f_X4_137 : jx_fl RX4 137 2 5 false .boolean false := ⟨RX2, TX2, 11, tyX2, by omega, rfl, jwX2, tyX2_ok, nmX2, by omega, rfl, k_89, rfl, by decide +kernel, rfl, rfl⟩
theorem f_X2_32 : jx_fl RX2 32 2 6 false .boolean false := ⟨RX2, TX2, 11, tyX2, by omega, rfl, jwX2, tyX2_ok, nmX2, by omega, rfl, k_90, rfl, by decide +kernel, rfl, rfl⟩
theorem f_X4_152 : jx_fl RX4 152 2 6 false .boolean false := ⟨RX2, TX2, 11, tyX2, by omega, rfl, jwX2, tyX2_ok, nmX2, by omega, rfl, k_91, rfl, by decide +kernel, rfl, rfl⟩
theorem f_X2_35 : jx_fl RX2 35 2 7 false .int false := ⟨RX2, TX2, 11, tyX2, by omega, rfl, jwX2, tyX2_ok, nmX2, by omega, rfl, k_92, rfl, by decide +kernel, rfl, rfl⟩
theorem f_X4_134 : jx_fl RX4 134 2 7 false .int false := ⟨RX2, TX2, 11, tyX2, by omega, rfl, jwX2, tyX2_ok, nmX2, by omega, rfl, k_93, rfl, by decide +kernel, rfl, rfl⟩
theorem f_X2_38 : jx_fl RX2 38 2 8 false .int false := ⟨RX2, TX2, 11, tyX2, by omega, rfl, jwX2, tyX2_ok, nmX2, by omega, rfl, k_94, rfl, by decide +kernel, rfl, rfl⟩
theorem f_X4_155 : jx_fl RX4 155 2 8 false .int false := ⟨RX2, TX2, 11, tyX2, by omega, rfl, jwX2, tyX2_ok, nmX2, by omega, rfl, k_95, rfl, by decide +kernel, rfl, rfl⟩
theorem f_X2_41 : jx_fl RX2 41 2 9 false .int false := ⟨RX2, TX2, 11, tyX2, by omega, rfl, jwX2, tyX2_ok, nmX2, by omega, rfl, k_96, rfl, by decide +kernel, rfl, rfl⟩
theorem f_X4_122 : jx_fl RX4 122 2 9 false .int false := ⟨RX2, TX2, 11, tyX2, by omega, rfl, jwX2, tyX2_ok, nmX2, by omega, rfl, k_97, rfl, by decide +kernel, rfl, rfl⟩
theorem f_X2_44 : jx_fl RX2 44 2 10 false .int false := ⟨RX2, TX2, 11, tyX2, by omega, rfl, jwX2, tyX2_ok, nmX2, by omega, rfl, k_98, rfl, by decide +kernel, rfl, rfl⟩
theorem f_X4_158 : jx_fl RX4 158 2 10 false .int false := ⟨RX2, TX2, 11, tyX2, by omega, rfl, jwX2, tyX2_ok, nmX2, by omega, rfl, k_99, rfl, by decide +kernel, rfl, rfl⟩
theorem f_X4_11 : jx_fl RX4 11 4 0 true (.array (.object "AlarmDesk$Point")) true := ⟨RX4, TX4, 9, tyX4, by omega, rfl, jwX4, tyX4_ok, nmX4, by omega, rfl, k_100, rfl, by decide +kernel, rfl, rfl⟩
theorem f_X5_146 : jx_fl RX5 146 4 0 true (.array (.object "AlarmDesk$Point")) true := ⟨RX4, TX4, 9, tyX4, by omega, rfl, jwX4, tyX4_ok, nmX4, by omega, rfl, k_101, rfl, by decide +kernel, rfl, rfl⟩
theorem f_X4_20 : jx_fl RX4 20 4 1 true (.object "AlarmDesk$Flood") true := ⟨RX4, TX4, 9, tyX4, by omega, rfl, jwX4, tyX4_ok, nmX4, by omega, rfl, k_102, rfl, by decide +kernel, rfl, rfl⟩
theorem f_X5_85 : jx_fl RX5 85 4 1 true (.object "AlarmDesk$Flood") true := ⟨RX4, TX4, 9, tyX4, by omega, rfl, jwX4, tyX4_ok, nmX4, by omega, rfl, k_103, rfl, by decide +kernel, rfl, rfl⟩
theorem f_X4_27 : jx_fl RX4 27 4 2 true (.object "AlarmDesk$Log") true := ⟨RX4, TX4, 9, tyX4, by omega, rfl, jwX4, tyX4_ok, nmX4, by omega, rfl, k_104, rfl, by decide +kernel, rfl, rfl⟩
theorem f_X5_121 : jx_fl RX5 121 4 2 true (.object "AlarmDesk$Log") true := ⟨RX4, TX4, 9, tyX4, by omega, rfl, jwX4, tyX4_ok, nmX4, by omega, rfl, k_105, rfl, by decide +kernel, rfl, rfl⟩
theorem f_X4_32 : jx_fl RX4 32 4 3 false .int false := ⟨RX4, TX4, 9, tyX4, by omega, rfl, jwX4, tyX4_ok, nmX4, by omega, rfl, k_106, rfl, by decide +kernel, rfl, rfl⟩
theorem f_X5_66 : jx_fl RX5 66 4 3 false .int false := ⟨RX4, TX4, 9, tyX4, by omega, rfl, jwX4, tyX4_ok, nmX4, by omega, rfl, k_107, rfl, by decide +kernel, rfl, rfl⟩
theorem f_X4_46 : jx_fl RX4 46 4 4 false .int false := ⟨RX4, TX4, 9, tyX4, by omega, rfl, jwX4, tyX4_ok, nmX4, by omega, rfl, k_108, rfl, by decide +kernel, rfl, rfl⟩
theorem f_X5_79 : jx_fl RX5 79 4 4 false .int false := ⟨RX4, TX4, 9, tyX4, by omega, rfl, jwX4, tyX4_ok, nmX4, by omega, rfl, k_109, rfl, by decide +kernel, rfl, rfl⟩
theorem f_X4_49 : jx_fl RX4 49 4 5 false .int false := ⟨RX4, TX4, 9, tyX4, by omega, rfl, jwX4, tyX4_ok, nmX4, by omega, rfl, k_110, rfl, by decide +kernel, rfl, rfl⟩
theorem f_X5_82 : jx_fl RX5 82 4 5 false .int false := ⟨RX4, TX4, 9, tyX4, by omega, rfl, jwX4, tyX4_ok, nmX4, by omega, rfl, k_111, rfl, by decide +kernel, rfl, rfl⟩
theorem f_X4_52 : jx_fl RX4 52 4 6 false .int false := ⟨RX4, TX4, 9, tyX4, by omega, rfl, jwX4, tyX4_ok, nmX4, by omega, rfl, k_112, rfl, by decide +kernel, rfl, rfl⟩
theorem f_X5_98 : jx_fl RX5 98 4 6 false .int false := ⟨RX4, TX4, 9, tyX4, by omega, rfl, jwX4, tyX4_ok, nmX4, by omega, rfl, k_113, rfl, by decide +kernel, rfl, rfl⟩
theorem f_X4_55 : jx_fl RX4 55 4 7 false .int false := ⟨RX4, TX4, 9, tyX4, by omega, rfl, jwX4, tyX4_ok, nmX4, by omega, rfl, k_114, rfl, by decide +kernel, rfl, rfl⟩
theorem f_X5_140 : jx_fl RX5 140 4 7 false .int false := ⟨RX4, TX4, 9, tyX4, by omega, rfl, jwX4, tyX4_ok, nmX4, by omega, rfl, k_115, rfl, by decide +kernel, rfl, rfl⟩
theorem f_X4_58 : jx_fl RX4 58 4 8 false .int false := ⟨RX4, TX4, 9, tyX4, by omega, rfl, jwX4, tyX4_ok, nmX4, by omega, rfl, k_116, rfl, by decide +kernel, rfl, rfl⟩
theorem f_X5_137 : jx_fl RX5 137 4 8 false .int false := ⟨RX4, TX4, 9, tyX4, by omega, rfl, jwX4, tyX4_ok, nmX4, by omega, rfl, k_117, rfl, by decide +kernel, rfl, rfl⟩
theorem f_X5_10 : jx_fl RX5 10 5 0 true (.object "AlarmDesk$Script") true := ⟨RX5, TX5, 6, tyX5, by omega, rfl, jwX5, tyX5_ok, nmX5, by omega, rfl, k_118, rfl, by decide +kernel, rfl, rfl⟩
theorem f_X5_16 : jx_fl RX5 16 5 1 true (.array .int) true := ⟨RX5, TX5, 6, tyX5, by omega, rfl, jwX5, tyX5_ok, nmX5, by omega, rfl, k_119, rfl, by decide +kernel, rfl, rfl⟩
theorem f_X5_22 : jx_fl RX5 22 5 2 true (.array (.object "AlarmDesk$State")) true := ⟨RX5, TX5, 6, tyX5, by omega, rfl, jwX5, tyX5_ok, nmX5, by omega, rfl, k_120, rfl, by decide +kernel, rfl, rfl⟩
theorem f_X5_182 : jx_fl RX5 182 5 3 false .int false := ⟨RX5, TX5, 6, tyX5, by omega, rfl, jwX5, tyX5_ok, nmX5, by omega, rfl, k_121, rfl, by decide +kernel, rfl, rfl⟩
theorem f_X5_27 : jx_fl RX5 27 5 4 true (.object "AlarmDesk$State") false := ⟨RX5, TX5, 6, tyX5, by omega, rfl, jwX5, tyX5_ok, nmX5, by omega, rfl, k_122, rfl, by decide +kernel, rfl, rfl⟩
theorem f_X5_31 : jx_fl RX5 31 5 5 true (.object "AlarmDesk$State") false := ⟨RX5, TX5, 6, tyX5, by omega, rfl, jwX5, tyX5_ok, nmX5, by omega, rfl, k_123, rfl, by decide +kernel, rfl, rfl⟩
theorem f_X6_7 : jx_fl RX6 7 6 0 true (.array .int) true := ⟨RX6, TX6, 11, tyX6, by omega, rfl, jwX6, tyX6_ok, nmX6, by omega, rfl, k_536, rfl, by decide +kernel, rfl, rfl⟩
theorem f_X6_13 : jx_fl RX6 13 6 1 true (.array .int) true := ⟨RX6, TX6, 11, tyX6, by omega, rfl, jwX6, tyX6_ok, nmX6, by omega, rfl, k_537, rfl, by decide +kernel, rfl, rfl⟩
theorem f_X6_16 : jx_fl RX6 16 6 2 true (.array .int) true := ⟨RX6, TX6, 11, tyX6, by omega, rfl, jwX6, tyX6_ok, nmX6, by omega, rfl, k_538, rfl, by decide +kernel, rfl, rfl⟩
theorem f_X6_28 : jx_fl RX6 28 6 3 false .int false := ⟨RX6, TX6, 11, tyX6, by omega, rfl, jwX6, tyX6_ok, nmX6, by omega, rfl, k_539, rfl, by decide +kernel, rfl, rfl⟩
theorem f_X6_19 : jx_fl RX6 19 6 4 true (.array .int) true := ⟨RX6, TX6, 11, tyX6, by omega, rfl, jwX6, tyX6_ok, nmX6, by omega, rfl, k_540, rfl, by decide +kernel, rfl, rfl⟩
theorem f_X6_116 : jx_fl RX6 116 6 5 false .int false := ⟨RX6, TX6, 11, tyX6, by omega, rfl, jwX6, tyX6_ok, nmX6, by omega, rfl, k_541, rfl, by decide +kernel, rfl, rfl⟩
theorem f_X6_22 : jx_fl RX6 22 6 6 true (.array .int) true := ⟨RX6, TX6, 11, tyX6, by omega, rfl, jwX6, tyX6_ok, nmX6, by omega, rfl, k_542, rfl, by decide +kernel, rfl, rfl⟩
theorem f_X6_137 : jx_fl RX6 137 6 7 false .int false := ⟨RX6, TX6, 11, tyX6, by omega, rfl, jwX6, tyX6_ok, nmX6, by omega, rfl, k_543, rfl, by decide +kernel, rfl, rfl⟩
theorem f_X6_140 : jx_fl RX6 140 6 8 false .int false := ⟨RX6, TX6, 11, tyX6, by omega, rfl, jwX6, tyX6_ok, nmX6, by omega, rfl, k_544, rfl, by decide +kernel, rfl, rfl⟩
theorem f_X6_149 : jx_fl RX6 149 6 9 false .int false := ⟨RX6, TX6, 11, tyX6, by omega, rfl, jwX6, tyX6_ok, nmX6, by omega, rfl, k_545, rfl, by decide +kernel, rfl, rfl⟩
theorem f_X6_25 : jx_fl RX6 25 6 10 true (.array .int) true := ⟨RX6, TX6, 11, tyX6, by omega, rfl, jwX6, tyX6_ok, nmX6, by omega, rfl, k_546, rfl, by decide +kernel, rfl, rfl⟩
theorem m_L_9 : jx_mI RL 9 yX5_init cX5_init 2 0 := ⟨k_16, k_17, k_1, k_18, rfl, ⟨by decide, by decide, by decide +kernel⟩⟩
theorem m_X5_26 : jx_mI RX5 26 yX4_init cX4_init 2 0 := ⟨k_44, k_45, k_3, k_46, rfl, ⟨by decide, by decide, by decide +kernel⟩⟩
theorem m_L_13 : jx_mV RL 13 RX5 yX5_add cX5_add 3 (some .int) 2 := ⟨k_124, k_125, k_126, k_1, k_127, ⟨by decide, by decide, by decide +kernel⟩⟩
theorem m_X5_34 : jx_mV RX5 34 RX5 yX5_noteBefore cX5_noteBefore 1 none 0 := ⟨k_128, k_129, k_773, k_1, k_130, ⟨by decide, by decide, by decide +kernel⟩⟩
theorem m_X5_178 : jx_mV RX5 178 RX4 yX4_copyFrom cX4_copyFrom 3 none 1 := ⟨k_131, k_132, k_133, k_3, k_134, ⟨by decide, by decide, by decide +kernel⟩⟩
theorem m_X4_36 : jx_mV RX4 36 RX2 yX2_copyFrom cX2_copyFrom 2 none 1 := ⟨k_135, k_136, k_137, k_6, k_138, ⟨by decide, by decide, by decide +kernel⟩⟩
theorem m_X4_40 : jx_mV RX4 40 RX0 yX0_copyFrom cX0_copyFrom 2 none 1 := ⟨k_142, k_143, k_144, k_4, k_145, ⟨by decide, by decide, by decide +kernel⟩⟩
theorem m_X4_43 : jx_mV RX4 43 RX1 yX1_copyFrom cX1_copyFrom 2 none 1 := ⟨k_147, k_148, k_149, k_5, k_150, ⟨by decide, by decide, by decide +kernel⟩⟩
theorem m_X5_37 : jx_mV RX5 37 RX4 yX4_addPoint cX4_addPoint 3 (some .int) 2 := ⟨k_152, k_153, k_154, k_3, k_155, ⟨by decide, by decide, by decide +kernel⟩⟩
theorem m_X4_65 : jx_mV RX4 65 RX2 yX2_begin cX2_begin 4 none 2 := ⟨k_158, k_159, k_160, k_6, k_161, ⟨by decide, by decide, by decide +kernel⟩⟩
theorem m_X5_41 : jx_mV RX5 41 RX5 yX5_settle cX5_settle 2 (some .int) 1 := ⟨k_162, k_163, k_774, k_1, k_164, ⟨by decide, by decide, by decide +kernel⟩⟩
theorem m_X5_108 : jx_mS RX5 108 yX5_isError cX5_isError 1 (some .boolean) 1 := ⟨k_165, k_166, k_1, k_167, ⟨by decide, by decide, by decide +kernel⟩⟩
theorem m_X5_203 : jx_mV RX5 203 RX5 yX5_keepBefore cX5_keepBefore 3 none 0 := ⟨k_168, k_169, k_775, k_1, k_170, ⟨by decide, by decide, by decide +kernel⟩⟩
theorem m_L_18 : jx_mV RL 18 RX5 yX5_set cX5_set 4 (some .int) 3 := ⟨k_171, k_172, k_173, k_1, k_174, ⟨by decide, by decide, by decide +kernel⟩⟩
theorem m_X5_45 : jx_mV RX5 45 RX4 yX4_changeSetting cX4_changeSetting 6 (some .int) 3 := ⟨k_175, k_176, k_177, k_3, k_178, ⟨by decide, by decide, by decide +kernel⟩⟩
theorem m_X4_69 : jx_mV RX4 69 RX4 yX4_hasPoint cX4_hasPoint 2 (some .boolean) 1 := ⟨k_179, k_180, k_181, k_3, k_182, ⟨by decide, by decide, by decide +kernel⟩⟩
theorem m_X4_83 : jx_mV RX4 83 RX2 yX2_hasHighestPriority cX2_hasHighestPriority 1 (some .boolean) 0 := ⟨k_183, k_184, k_185, k_6, k_186, ⟨by decide, by decide, by decide +kernel⟩⟩
theorem m_X4_87 : jx_mV RX4 87 RX2 yX2_isShelved cX2_isShelved 1 (some .boolean) 0 := ⟨k_187, k_188, k_189, k_6, k_190, ⟨by decide, by decide, by decide +kernel⟩⟩
theorem m_X4_90 : jx_mV RX4 90 RX4 yX4_endShelf cX4_endShelf 2 none 1 := ⟨k_191, k_192, k_776, k_3, k_193, ⟨by decide, by decide, by decide +kernel⟩⟩
theorem m_X4_145 : jx_mV RX4 145 RX1 yX1_write cX1_write 5 none 3 := ⟨k_194, k_195, k_196, k_5, k_197, ⟨by decide, by decide, by decide +kernel⟩⟩
theorem m_X1_31 : jx_mS RX1 31 yJ9_floorMod_7cf53 cJ9_floorMod_7cf53 3 (some .int) 2 := ⟨k_198, k_199, k_9, k_200, ⟨by decide, by decide, by decide +kernel⟩⟩
theorem m_L_23 : jx_mV RL 23 RX5 yX5_setRoot cX5_setRoot 3 (some .int) 2 := ⟨k_201, k_202, k_203, k_1, k_204, ⟨by decide, by decide, by decide +kernel⟩⟩
theorem m_X5_49 : jx_mV RX5 49 RX4 yX4_changeRoot cX4_changeRoot 4 (some .int) 2 := ⟨k_205, k_206, k_207, k_3, k_208, ⟨by decide, by decide, by decide +kernel⟩⟩
theorem m_X4_94 : jx_mV RX4 94 RX4 yX4_isOnWayUp cX4_isOnWayUp 5 (some .boolean) 2 := ⟨k_209, k_210, k_777, k_3, k_211, ⟨by decide, by decide, by decide +kernel⟩⟩
theorem m_L_27 : jx_mV RL 27 RX5 yX5_setValue cX5_setValue 3 (some .int) 2 := ⟨k_212, k_213, k_214, k_1, k_215, ⟨by decide, by decide, by decide +kernel⟩⟩
theorem m_X5_52 : jx_mV RX5 52 RX4 yX4_changeValue cX4_changeValue 4 (some .int) 2 := ⟨k_216, k_217, k_218, k_3, k_219, ⟨by decide, by decide, by decide +kernel⟩⟩
theorem m_L_31 : jx_mV RL 31 RX5 yX5_point cX5_point 3 (some .int) 2 := ⟨k_220, k_221, k_222, k_1, k_223, ⟨by decide, by decide, by decide +kernel⟩⟩
theorem m_X5_55 : jx_mV RX5 55 RX4 yX4_hasPoint cX4_hasPoint 2 (some .boolean) 1 := ⟨k_224, k_180, k_181, k_3, k_182, ⟨by decide, by decide, by decide +kernel⟩⟩
theorem m_X5_59 : jx_mS RX5 59 yX5_isIn cX5_isIn 3 (some .boolean) 3 := ⟨k_225, k_156, k_1, k_157, ⟨by decide, by decide, by decide +kernel⟩⟩
theorem m_X5_63 : jx_mV RX5 63 RX4 yX4_pointNumber cX4_pointNumber 3 (some .int) 2 := ⟨k_226, k_227, k_228, k_3, k_229, ⟨by decide, by decide, by decide +kernel⟩⟩
theorem m_X4_172 : jx_mV RX4 172 RX4 yX4_whyHidden cX4_whyHidden 3 (some .int) 1 := ⟨k_230, k_231, k_778, k_3, k_232, ⟨by decide, by decide, by decide +kernel⟩⟩
theorem m_X4_178 : jx_mV RX4 178 RX2 yX2_stands cX2_stands 1 (some .boolean) 0 := ⟨k_233, k_234, k_235, k_6, k_236, ⟨by decide, by decide, by decide +kernel⟩⟩
theorem m_X4_181 : jx_mV RX4 181 RX4 yX4_hasRootInAlarm cX4_hasRootInAlarm 4 (some .boolean) 1 := ⟨k_237, k_238, k_779, k_3, k_239, ⟨by decide, by decide, by decide +kernel⟩⟩
theorem m_X4_185 : jx_mV RX4 185 RX4 yX4_isFlooded cX4_isFlooded 2 (some .boolean) 1 := ⟨k_240, k_241, k_780, k_3, k_242, ⟨by decide, by decide, by decide +kernel⟩⟩
theorem m_X4_175 : jx_mV RX4 175 RX2 yX2_ownNumber cX2_ownNumber 2 (some .int) 1 := ⟨k_243, k_244, k_245, k_6, k_246, ⟨by decide, by decide, by decide +kernel⟩⟩
theorem m_L_35 : jx_mV RL 35 RX5 yX5_points cX5_points 1 (some .int) 0 := ⟨k_247, k_248, k_249, k_1, k_250, ⟨by decide, by decide, by decide +kernel⟩⟩
theorem m_L_40 : jx_mV RL 40 RX5 yX5_setState cX5_setState 2 (some .int) 1 := ⟨k_251, k_252, k_253, k_1, k_254, ⟨by decide, by decide, by decide +kernel⟩⟩
theorem m_X5_70 : jx_mV RX5 70 RX4 yX4_changeMode cX4_changeMode 3 (some .int) 1 := ⟨k_255, k_256, k_257, k_3, k_258, ⟨by decide, by decide, by decide +kernel⟩⟩
theorem m_L_45 : jx_mV RL 45 RX5 yX5_setFlood cX5_setFlood 4 (some .int) 3 := ⟨k_259, k_260, k_261, k_1, k_262, ⟨by decide, by decide, by decide +kernel⟩⟩
theorem m_X5_73 : jx_mV RX5 73 RX4 yX4_changeFlood cX4_changeFlood 5 (some .int) 3 := ⟨k_263, k_264, k_265, k_3, k_266, ⟨by decide, by decide, by decide +kernel⟩⟩
theorem m_L_49 : jx_mV RL 49 RX5 yX5_tick cX5_tick 2 (some .int) 1 := ⟨k_267, k_268, k_269, k_1, k_270, ⟨by decide, by decide, by decide +kernel⟩⟩
theorem m_X5_76 : jx_mV RX5 76 RX4 yX4_passTicks cX4_passTicks 3 (some .int) 1 := ⟨k_271, k_272, k_273, k_3, k_274, ⟨by decide, by decide, by decide +kernel⟩⟩
theorem m_X4_113 : jx_mV RX4 113 RX4 yX4_passTick cX4_passTick 2 none 0 := ⟨k_275, k_276, k_781, k_3, k_277, ⟨by decide, by decide, by decide +kernel⟩⟩
theorem m_X4_116 : jx_mV RX4 116 RX0 yX0_openTime cX0_openTime 2 none 1 := ⟨k_278, k_279, k_280, k_4, k_281, ⟨by decide, by decide, by decide +kernel⟩⟩
theorem m_X0_38 : jx_mS RX0 38 yJ9_floorMod_7cf53 cJ9_floorMod_7cf53 3 (some .int) 2 := ⟨k_282, k_199, k_9, k_200, ⟨by decide, by decide, by decide +kernel⟩⟩
theorem m_X4_119 : jx_mV RX4 119 RX4 yX4_movePoint cX4_movePoint 3 none 1 := ⟨k_283, k_284, k_782, k_3, k_285, ⟨by decide, by decide, by decide +kernel⟩⟩
theorem m_X4_131 : jx_mV RX4 131 RX2 yX2_isTurning cX2_isTurning 1 (some .boolean) 0 := ⟨k_286, k_287, k_288, k_6, k_289, ⟨by decide, by decide, by decide +kernel⟩⟩
theorem m_X2_53 : jx_mV RX2 53 RX2 yX2_isClear cX2_isClear 3 (some .boolean) 2 := ⟨k_290, k_291, k_783, k_6, k_292, ⟨by decide, by decide, by decide +kernel⟩⟩
theorem m_X2_57 : jx_mV RX2 57 RX2 yX2_isOver cX2_isOver 2 (some .boolean) 1 := ⟨k_293, k_294, k_784, k_6, k_295, ⟨by decide, by decide, by decide +kernel⟩⟩
theorem m_X4_141 : jx_mV RX4 141 RX2 yX2_delayOf cX2_delayOf 2 (some .int) 1 := ⟨k_296, k_297, k_298, k_6, k_299, ⟨by decide, by decide, by decide +kernel⟩⟩
theorem m_X4_149 : jx_mV RX4 149 RX4 yX4_activate cX4_activate 3 none 1 := ⟨k_300, k_301, k_785, k_3, k_302, ⟨by decide, by decide, by decide +kernel⟩⟩
theorem m_X4_159 : jx_mV RX4 159 RX0 yX0_addActivation cX0_addActivation 2 none 1 := ⟨k_303, k_304, k_305, k_4, k_306, ⟨by decide, by decide, by decide +kernel⟩⟩
theorem m_X4_125 : jx_mV RX4 125 RX4 yX4_lookAtFlood cX4_lookAtFlood 2 none 0 := ⟨k_307, k_308, k_786, k_3, k_309, ⟨by decide, by decide, by decide +kernel⟩⟩
theorem m_X4_162 : jx_mV RX4 162 RX0 yX0_rateAt cX0_rateAt 4 (some .int) 1 := ⟨k_310, k_311, k_312, k_4, k_313, ⟨by decide, by decide, by decide +kernel⟩⟩
theorem m_X4_128 : jx_mV RX4 128 RX2 yX2_putDownValue cX2_putDownValue 1 none 0 := ⟨k_314, k_315, k_316, k_6, k_317, ⟨by decide, by decide, by decide +kernel⟩⟩
theorem m_L_53 : jx_mV RL 53 RX5 yX5_plant cX5_plant 2 (some .int) 1 := ⟨k_318, k_319, k_320, k_1, k_321, ⟨by decide, by decide, by decide +kernel⟩⟩
theorem m_X5_95 : jx_mV RX5 95 RX0 yX0_rateAt cX0_rateAt 4 (some .int) 1 := ⟨k_322, k_311, k_312, k_4, k_313, ⟨by decide, by decide, by decide +kernel⟩⟩
theorem m_L_57 : jx_mV RL 57 RX5 yX5_ack cX5_ack 2 (some .int) 1 := ⟨k_323, k_324, k_325, k_1, k_326, ⟨by decide, by decide, by decide +kernel⟩⟩
theorem m_X5_101 : jx_mV RX5 101 RX4 yX4_acknowledge cX4_acknowledge 4 (some .int) 1 := ⟨k_327, k_328, k_329, k_3, k_330, ⟨by decide, by decide, by decide +kernel⟩⟩
theorem m_L_61 : jx_mV RL 61 RX5 yX5_ackAll cX5_ackAll 4 (some .int) 0 := ⟨k_331, k_332, k_333, k_1, k_334, ⟨by decide, by decide, by decide +kernel⟩⟩
theorem m_X5_104 : jx_mV RX5 104 RX4 yX4_fillList cX4_fillList 5 (some .int) 1 := ⟨k_335, k_336, k_337, k_3, k_338, ⟨by decide, by decide, by decide +kernel⟩⟩
theorem m_X4_188 : jx_mV RX4 188 RX4 yX4_comesBefore cX4_comesBefore 5 (some .boolean) 2 := ⟨k_339, k_340, k_787, k_3, k_341, ⟨by decide, by decide, by decide +kernel⟩⟩
theorem m_L_65 : jx_mV RL 65 RX5 yX5_shelve cX5_shelve 3 (some .int) 2 := ⟨k_342, k_343, k_344, k_1, k_345, ⟨by decide, by decide, by decide +kernel⟩⟩
theorem m_X5_111 : jx_mV RX5 111 RX4 yX4_putOnShelf cX4_putOnShelf 3 (some .int) 2 := ⟨k_346, k_347, k_348, k_3, k_349, ⟨by decide, by decide, by decide +kernel⟩⟩
theorem m_L_69 : jx_mV RL 69 RX5 yX5_unshelve cX5_unshelve 2 (some .int) 1 := ⟨k_350, k_351, k_352, k_1, k_353, ⟨by decide, by decide, by decide +kernel⟩⟩
theorem m_X5_114 : jx_mV RX5 114 RX4 yX4_takeFromShelf cX4_takeFromShelf 3 (some .int) 1 := ⟨k_354, k_355, k_356, k_3, k_357, ⟨by decide, by decide, by decide +kernel⟩⟩
theorem m_L_73 : jx_mV RL 73 RX5 yX5_list cX5_list 3 (some .int) 1 := ⟨k_358, k_359, k_360, k_1, k_361, ⟨by decide, by decide, by decide +kernel⟩⟩
theorem m_L_77 : jx_mV RL 77 RX5 yX5_count cX5_count 4 (some .int) 1 := ⟨k_362, k_363, k_364, k_1, k_365, ⟨by decide, by decide, by decide +kernel⟩⟩
theorem m_X5_117 : jx_mV RX5 117 RX4 yX4_isCounted cX4_isCounted 3 (some .boolean) 2 := ⟨k_366, k_367, k_368, k_3, k_369, ⟨by decide, by decide, by decide +kernel⟩⟩
theorem m_L_81 : jx_mV RL 81 RX5 yX5_events cX5_events 1 (some .int) 0 := ⟨k_370, k_371, k_372, k_1, k_373, ⟨by decide, by decide, by decide +kernel⟩⟩
theorem m_L_85 : jx_mV RL 85 RX5 yX5_event cX5_event 3 (some .int) 2 := ⟨k_374, k_375, k_376, k_1, k_377, ⟨by decide, by decide, by decide +kernel⟩⟩
theorem m_X5_130 : jx_mV RX5 130 RX1 yX1_kept cX1_kept 1 (some .int) 0 := ⟨k_378, k_379, k_380, k_5, k_381, ⟨by decide, by decide, by decide +kernel⟩⟩
theorem m_X1_37 : jx_mS RX1 37 yJ9_min_7cf53 cJ9_min_7cf53 2 (some .int) 2 := ⟨k_382, k_383, k_9, k_384, ⟨by decide, by decide, by decide +kernel⟩⟩
theorem m_X5_134 : jx_mV RX5 134 RX1 yX1_eventNumber cX1_eventNumber 4 (some .int) 2 := ⟨k_385, k_386, k_387, k_5, k_388, ⟨by decide, by decide, by decide +kernel⟩⟩
theorem m_L_89 : jx_mV RL 89 RX5 yX5_meanAck cX5_meanAck 1 (some .float) 0 := ⟨k_389, k_390, k_391, k_1, k_392, ⟨by decide, by decide, by decide +kernel⟩⟩
theorem m_L_94 : jx_mV RL 94 RX5 yX5_worst cX5_worst 5 (some .int) 0 := ⟨k_393, k_394, k_395, k_1, k_396, ⟨by decide, by decide, by decide +kernel⟩⟩
theorem m_X5_143 : jx_mV RX5 143 RX1 yX1_activationsOf cX1_activationsOf 4 (some .int) 1 := ⟨k_397, k_398, k_399, k_5, k_400, ⟨by decide, by decide, by decide +kernel⟩⟩
theorem m_X1_40 : jx_mV RX1 40 RX1 yX1_kept cX1_kept 1 (some .int) 0 := ⟨k_401, k_379, k_380, k_5, k_381, ⟨by decide, by decide, by decide +kernel⟩⟩
theorem m_L_98 : jx_mV RL 98 RX5 yX5_replay cX5_replay 3 (some .int) 2 := ⟨k_402, k_403, k_404, k_1, k_405, ⟨by decide, by decide, by decide +kernel⟩⟩
theorem m_X5_150 : jx_mV RX5 150 RX2 yX2_alarmsWith cX2_alarmsWith 9 (some .int) 1 := ⟨k_406, k_407, k_408, k_6, k_409, ⟨by decide, by decide, by decide +kernel⟩⟩
theorem m_X2_65 : jx_mV RX2 65 RX2 yX2_delayOf cX2_delayOf 2 (some .int) 1 := ⟨k_410, k_297, k_298, k_6, k_299, ⟨by decide, by decide, by decide +kernel⟩⟩
theorem m_L_102 : jx_mV RL 102 RX5 yX5_leastDeadband cX5_leastDeadband 3 (some .int) 2 := ⟨k_411, k_412, k_413, k_1, k_414, ⟨by decide, by decide, by decide +kernel⟩⟩
theorem m_X5_155 : jx_mV RX5 155 RX2 yX2_leastDeadbandFor cX2_leastDeadbandFor 6 (some .int) 1 := ⟨k_415, k_416, k_417, k_6, k_418, ⟨by decide, by decide, by decide +kernel⟩⟩
theorem m_X2_69 : jx_mV RX2 69 RX2 yX2_alarmsWith cX2_alarmsWith 9 (some .int) 1 := ⟨k_419, k_407, k_408, k_6, k_409, ⟨by decide, by decide, by decide +kernel⟩⟩
theorem m_L_106 : jx_mV RL 106 RX5 yX5_type cX5_type 2 (some .int) 1 := ⟨k_420, k_421, k_422, k_1, k_423, ⟨by decide, by decide, by decide +kernel⟩⟩
theorem m_X5_158 : jx_mV RX5 158 RX3 yX3_append cX3_append 2 (some .int) 1 := ⟨k_424, k_425, k_426, k_2, k_427, ⟨by decide, by decide, by decide +kernel⟩⟩
theorem m_L_110 : jx_mV RL 110 RX5 yX5_clear cX5_clear 1 (some .int) 0 := ⟨k_428, k_429, k_430, k_1, k_431, ⟨by decide, by decide, by decide +kernel⟩⟩
theorem m_X5_162 : jx_mV RX5 162 RX3 yX3_discard cX3_discard 2 (some .int) 0 := ⟨k_432, k_433, k_434, k_2, k_435, ⟨by decide, by decide, by decide +kernel⟩⟩
theorem m_L_114 : jx_mV RL 114 RX5 yX5_run cX5_run 3 (some .int) 0 := ⟨k_436, k_437, k_438, k_1, k_439, ⟨by decide, by decide, by decide +kernel⟩⟩
theorem m_X5_165 : jx_mV RX5 165 RX3 yX3_readCommands cX3_readCommands 2 (some .boolean) 0 := ⟨k_440, k_441, k_442, k_2, k_443, ⟨by decide, by decide, by decide +kernel⟩⟩
theorem m_X3_35 : jx_mV RX3 35 RX3 yX3_readCommand cX3_readCommand 3 (some .boolean) 1 := ⟨k_444, k_445, k_788, k_2, k_446, ⟨by decide, by decide, by decide +kernel⟩⟩
theorem m_X3_43 : jx_mV RX3 43 RX3 yX3_readWord cX3_readWord 5 (some .int) 0 := ⟨k_447, k_448, k_789, k_2, k_449, ⟨by decide, by decide, by decide +kernel⟩⟩
theorem m_X3_58 : jx_mS RX3 58 yX3_wordText cX3_wordText 1 (some (.object "java/lang/String")) 1 := ⟨k_450, k_451, k_2, k_452, ⟨by decide, by decide, by decide +kernel⟩⟩
theorem m_X3_62 : jx_mV RX3 62 RX3 yX3_matchedSigns cX3_matchedSigns 3 (some .int) 1 := ⟨k_453, k_454, k_790, k_2, k_455, ⟨by decide, by decide, by decide +kernel⟩⟩
theorem m_X3_66 : jx_mV RX3 66 RJ0 yJ0_length_8abf5 cJ0_length_8abf5 1 (some .int) 0 := ⟨k_456, k_457, k_458, k_10, k_459, ⟨by decide, by decide, by decide +kernel⟩⟩
theorem m_J0_335 : jx_mV RJ0 335 RJ0 yJ0_coder_7d493 cJ0_coder_7d493 1 (some .byte) 0 := ⟨k_460, k_461, k_462, k_10, k_463, ⟨by decide, by decide, by decide +kernel⟩⟩
theorem m_X3_76 : jx_mV RX3 76 RJ0 yJ0_charAt_5068e cJ0_charAt_5068e 2 (some .char) 1 := ⟨k_465, k_466, k_467, k_10, k_468, ⟨by decide, by decide, by decide +kernel⟩⟩
theorem m_J0_492 : jx_mV RJ0 492 RJ0 yJ0_isLatin1_aae02 cJ0_isLatin1_aae02 1 (some .boolean) 0 := ⟨k_469, k_470, k_471, k_10, k_472, ⟨by decide, by decide, by decide +kernel⟩⟩
theorem m_J0_495 : jx_mS RJ0 495 yJ1_charAt_3b067 cJ1_charAt_3b067 2 (some .char) 2 := ⟨k_473, k_474, k_11, k_475, ⟨by decide, by decide, by decide +kernel⟩⟩
theorem m_J1_9 : jx_mS RJ1 9 yJ0_checkIndex_df160 cJ0_checkIndex_df160 2 none 2 := ⟨k_476, k_477, k_10, k_478, ⟨by decide, by decide, by decide +kernel⟩⟩
theorem m_J0_1059 : jx_mS RJ0 1059 yJ3_checkIndex_8e157 cJ3_checkIndex_8e157 3 (some .int) 3 := ⟨k_480, k_481, k_12, k_482, ⟨by decide, by decide, by decide +kernel⟩⟩
theorem m_J0_498 : jx_mS RJ0 498 yJ2_charAt_3b067 cJ2_charAt_3b067 2 (some .char) 2 := ⟨k_483, k_484, k_13, k_485, ⟨by decide, by decide, by decide +kernel⟩⟩
theorem m_J2_67 : jx_mS RJ2 67 yJ2_checkIndex_2214a cJ2_checkIndex_2214a 2 none 2 := ⟨k_486, k_487, k_13, k_488, ⟨by decide, by decide, by decide +kernel⟩⟩
theorem m_J2_48 : jx_mS RJ2 48 yJ2_length_9d52b cJ2_length_9d52b 1 (some .int) 1 := ⟨k_489, k_490, k_13, k_491, ⟨by decide, by decide, by decide +kernel⟩⟩
theorem m_J2_414 : jx_mS RJ2 414 yJ0_checkIndex_df160 cJ0_checkIndex_df160 2 none 2 := ⟨k_492, k_477, k_10, k_478, ⟨by decide, by decide, by decide +kernel⟩⟩
theorem m_J2_71 : jx_mS RJ2 71 yJ2_getChar_3b067 cJ2_getChar_3b067 2 (some .char) 2 := ⟨k_493, k_494, k_13, k_495, ⟨by decide, by decide, by decide +kernel⟩⟩
theorem m_X3_70 : jx_mS RX3 70 yJ9_max_7cf53 cJ9_max_7cf53 2 (some .int) 2 := ⟨k_499, k_500, k_9, k_501, ⟨by decide, by decide, by decide +kernel⟩⟩
theorem m_X3_47 : jx_mV RX3 47 RX3 yX3_readNumber cX3_readNumber 2 (some .boolean) 0 := ⟨k_502, k_503, k_791, k_2, k_504, ⟨by decide, by decide, by decide +kernel⟩⟩
theorem m_X3_39 : jx_mV RX3 39 RX3 yX3_readSign cX3_readSign 2 (some .boolean) 1 := ⟨k_505, k_506, k_792, k_2, k_507, ⟨by decide, by decide, by decide +kernel⟩⟩
theorem m_X3_54 : jx_mV RX3 54 RX3 yX3_readSecond cX3_readSecond 3 (some .boolean) 2 := ⟨k_508, k_509, k_793, k_2, k_510, ⟨by decide, by decide, by decide +kernel⟩⟩
theorem m_X5_175 : jx_mV RX5 175 RX5 yX5_carryOut cX5_carryOut 4 (some .int) 1 := ⟨k_511, k_512, k_794, k_1, k_513, ⟨by decide, by decide, by decide +kernel⟩⟩
theorem m_L_118 : jx_mV RL 118 RX5 yX5_undo cX5_undo 2 (some .int) 0 := ⟨k_515, k_516, k_517, k_1, k_518, ⟨by decide, by decide, by decide +kernel⟩⟩
theorem m_L_122 : jx_mV RL 122 RX5 yX5_fingerprint cX5_fingerprint 5 (some .long) 0 := ⟨k_519, k_520, k_521, k_1, k_522, ⟨by decide, by decide, by decide +kernel⟩⟩
theorem m_X5_189 : jx_mV RX5 189 RX5 yX5_plant cX5_plant 2 (some .int) 1 := ⟨k_525, k_319, k_320, k_1, k_321, ⟨by decide, by decide, by decide +kernel⟩⟩
theorem m_X5_192 : jx_mV RX5 192 RX5 yX5_points cX5_points 1 (some .int) 0 := ⟨k_526, k_248, k_249, k_1, k_250, ⟨by decide, by decide, by decide +kernel⟩⟩
theorem m_X5_194 : jx_mV RX5 194 RX5 yX5_point cX5_point 3 (some .int) 2 := ⟨k_527, k_221, k_222, k_1, k_223, ⟨by decide, by decide, by decide +kernel⟩⟩
theorem m_X5_197 : jx_mV RX5 197 RX5 yX5_events cX5_events 1 (some .int) 0 := ⟨k_528, k_371, k_372, k_1, k_373, ⟨by decide, by decide, by decide +kernel⟩⟩
theorem m_X5_200 : jx_mV RX5 200 RX5 yX5_event cX5_event 3 (some .int) 2 := ⟨k_529, k_375, k_376, k_1, k_377, ⟨by decide, by decide, by decide +kernel⟩⟩
theorem m_L_12 : jx_mI RL 12 yX6_init cX6_init 1 0 := ⟨k_532, k_533, k_7, k_534, rfl, ⟨by decide, by decide, by decide +kernel⟩⟩
theorem m_L_17 : jx_mV RL 17 RX6 yX6_add cX6_add 5 (some .int) 2 := ⟨k_547, k_548, k_549, k_7, k_550, ⟨by decide, by decide, by decide +kernel⟩⟩
theorem m_X6_36 : jx_mS RX6 36 yX6_isValue cX6_isValue 1 (some .boolean) 1 := ⟨k_551, k_552, k_7, k_553, ⟨by decide, by decide, by decide +kernel⟩⟩
theorem m_X6_32 : jx_mS RX6 32 yX6_in cX6_in 3 (some .boolean) 3 := ⟨k_554, k_555, k_7, k_556, ⟨by decide, by decide, by decide +kernel⟩⟩
theorem m_X6_40 : jx_mV RX6 40 RX6 yX6_keeps cX6_keeps 3 none 1 := ⟨k_557, k_558, k_795, k_7, k_559, ⟨by decide, by decide, by decide +kernel⟩⟩
theorem m_X6_44 : jx_mV RX6 44 RX6 yX6_puts cX6_puts 4 none 3 := ⟨k_560, k_561, k_796, k_7, k_562, ⟨by decide, by decide, by decide +kernel⟩⟩
theorem m_L_22 : jx_mV RL 22 RX6 yX6_set cX6_set 5 (some .int) 3 := ⟨k_563, k_564, k_565, k_7, k_566, ⟨by decide, by decide, by decide +kernel⟩⟩
theorem m_X6_52 : jx_mV RX6 52 RX6 yX6_isPoint cX6_isPoint 2 (some .boolean) 1 := ⟨k_567, k_568, k_797, k_7, k_569, ⟨by decide, by decide, by decide +kernel⟩⟩
theorem m_X6_55 : jx_mS RX6 55 yX6_isIn cX6_isIn 2 (some .boolean) 2 := ⟨k_570, k_571, k_7, k_572, ⟨by decide, by decide, by decide +kernel⟩⟩
theorem m_X6_59 : jx_mV RX6 59 RX6 yX6_of cX6_of 3 (some .int) 2 := ⟨k_573, k_574, k_798, k_7, k_575, ⟨by decide, by decide, by decide +kernel⟩⟩
theorem m_X6_63 : jx_mV RX6 63 RX6 yX6_leavesShelf cX6_leavesShelf 2 none 1 := ⟨k_576, k_577, k_799, k_7, k_578, ⟨by decide, by decide, by decide +kernel⟩⟩
theorem m_X6_48 : jx_mV RX6 48 RX6 yX6_happens cX6_happens 4 none 2 := ⟨k_579, k_580, k_800, k_7, k_581, ⟨by decide, by decide, by decide +kernel⟩⟩
theorem m_L_26 : jx_mV RL 26 RX6 yX6_setRoot cX6_setRoot 5 (some .int) 2 := ⟨k_582, k_583, k_584, k_7, k_585, ⟨by decide, by decide, by decide +kernel⟩⟩
theorem m_L_30 : jx_mV RL 30 RX6 yX6_setValue cX6_setValue 3 (some .int) 2 := ⟨k_586, k_587, k_588, k_7, k_589, ⟨by decide, by decide, by decide +kernel⟩⟩
theorem m_X6_67 : jx_mS RX6 67 yX6_copies cX6_copies 3 none 2 := ⟨k_590, k_591, k_7, k_592, ⟨by decide, by decide, by decide +kernel⟩⟩
theorem m_X6_71 : jx_mV RX6 71 RX6 yX6_values cX6_values 4 (some .int) 2 := ⟨k_593, k_594, k_801, k_7, k_595, ⟨by decide, by decide, by decide +kernel⟩⟩
theorem m_X6_74 : jx_mV RX6 74 RX6 yX6_acts cX6_acts 2 (some .int) 1 := ⟨k_596, k_597, k_802, k_7, k_598, ⟨by decide, by decide, by decide +kernel⟩⟩
theorem m_L_34 : jx_mV RL 34 RX6 yX6_point cX6_point 3 (some .int) 2 := ⟨k_599, k_600, k_601, k_7, k_602, ⟨by decide, by decide, by decide +kernel⟩⟩
theorem m_X6_87 : jx_mV RX6 87 RX6 yX6_told cX6_told 3 (some .int) 2 := ⟨k_603, k_604, k_803, k_7, k_605, ⟨by decide, by decide, by decide +kernel⟩⟩
theorem m_X6_84 : jx_mV RX6 84 RX6 yX6_why cX6_why 2 (some .int) 1 := ⟨k_606, k_607, k_804, k_7, k_608, ⟨by decide, by decide, by decide +kernel⟩⟩
theorem m_X6_78 : jx_mV RX6 78 RX6 yX6_stands cX6_stands 2 (some .boolean) 1 := ⟨k_609, k_610, k_805, k_7, k_611, ⟨by decide, by decide, by decide +kernel⟩⟩
theorem m_X6_81 : jx_mV RX6 81 RX6 yX6_hasRoot cX6_hasRoot 4 (some .boolean) 1 := ⟨k_612, k_613, k_806, k_7, k_614, ⟨by decide, by decide, by decide +kernel⟩⟩
theorem m_L_39 : jx_mV RL 39 RX6 yX6_points cX6_points 1 (some .int) 0 := ⟨k_615, k_616, k_617, k_7, k_618, ⟨by decide, by decide, by decide +kernel⟩⟩
theorem m_L_44 : jx_mV RL 44 RX6 yX6_setState cX6_setState 2 (some .int) 1 := ⟨k_619, k_620, k_621, k_7, k_622, ⟨by decide, by decide, by decide +kernel⟩⟩
theorem m_X6_90 : jx_mV RX6 90 RX6 yX6_states cX6_states 3 (some .int) 1 := ⟨k_623, k_624, k_807, k_7, k_625, ⟨by decide, by decide, by decide +kernel⟩⟩
theorem m_L_48 : jx_mV RL 48 RX6 yX6_setFlood cX6_setFlood 5 (some .int) 3 := ⟨k_626, k_627, k_628, k_7, k_629, ⟨by decide, by decide, by decide +kernel⟩⟩
theorem m_L_52 : jx_mV RL 52 RX6 yX6_tick cX6_tick 2 (some .int) 1 := ⟨k_630, k_631, k_632, k_7, k_633, ⟨by decide, by decide, by decide +kernel⟩⟩
theorem m_X6_110 : jx_mV RX6 110 RX6 yX6_ticks cX6_ticks 3 (some .int) 1 := ⟨k_634, k_635, k_808, k_7, k_636, ⟨by decide, by decide, by decide +kernel⟩⟩
theorem m_X6_107 : jx_mV RX6 107 RX6 yX6_ticksOnce cX6_ticksOnce 2 none 0 := ⟨k_637, k_638, k_809, k_7, k_639, ⟨by decide, by decide, by decide +kernel⟩⟩
theorem m_X6_100 : jx_mV RX6 100 RX6 yX6_looks cX6_looks 4 none 1 := ⟨k_640, k_641, k_810, k_7, k_642, ⟨by decide, by decide, by decide +kernel⟩⟩
theorem m_X6_93 : jx_mS RX6 93 yX6_isOver cX6_isOver 3 (some .boolean) 3 := ⟨k_643, k_644, k_7, k_645, ⟨by decide, by decide, by decide +kernel⟩⟩
theorem m_X6_96 : jx_mS RX6 96 yX6_isClear cX6_isClear 4 (some .boolean) 4 := ⟨k_646, k_647, k_7, k_648, ⟨by decide, by decide, by decide +kernel⟩⟩
theorem m_X6_103 : jx_mV RX6 103 RX6 yX6_rate cX6_rate 3 (some .int) 0 := ⟨k_649, k_650, k_811, k_7, k_651, ⟨by decide, by decide, by decide +kernel⟩⟩
theorem m_L_56 : jx_mV RL 56 RX6 yX6_plant cX6_plant 2 (some .int) 1 := ⟨k_652, k_653, k_654, k_7, k_655, ⟨by decide, by decide, by decide +kernel⟩⟩
theorem m_L_60 : jx_mV RL 60 RX6 yX6_ack cX6_ack 2 (some .int) 1 := ⟨k_656, k_657, k_658, k_7, k_659, ⟨by decide, by decide, by decide +kernel⟩⟩
theorem m_X6_113 : jx_mV RX6 113 RX6 yX6_acks cX6_acks 3 (some .int) 1 := ⟨k_660, k_661, k_812, k_7, k_662, ⟨by decide, by decide, by decide +kernel⟩⟩
theorem m_L_64 : jx_mV RL 64 RX6 yX6_ackAll cX6_ackAll 4 (some .int) 0 := ⟨k_663, k_664, k_665, k_7, k_666, ⟨by decide, by decide, by decide +kernel⟩⟩
theorem m_X6_122 : jx_mV RX6 122 RX6 yX6_lists cX6_lists 3 none 0 := ⟨k_667, k_668, k_813, k_7, k_669, ⟨by decide, by decide, by decide +kernel⟩⟩
theorem m_X6_119 : jx_mV RX6 119 RX6 yX6_isAhead cX6_isAhead 4 (some .boolean) 2 := ⟨k_670, k_671, k_814, k_7, k_672, ⟨by decide, by decide, by decide +kernel⟩⟩
theorem m_L_68 : jx_mV RL 68 RX6 yX6_shelve cX6_shelve 3 (some .int) 2 := ⟨k_673, k_674, k_675, k_7, k_676, ⟨by decide, by decide, by decide +kernel⟩⟩
theorem m_X6_125 : jx_mV RX6 125 RX6 yX6_shelves cX6_shelves 3 (some .int) 2 := ⟨k_677, k_678, k_815, k_7, k_679, ⟨by decide, by decide, by decide +kernel⟩⟩
theorem m_L_72 : jx_mV RL 72 RX6 yX6_unshelve cX6_unshelve 3 (some .int) 1 := ⟨k_680, k_681, k_682, k_7, k_683, ⟨by decide, by decide, by decide +kernel⟩⟩
theorem m_L_76 : jx_mV RL 76 RX6 yX6_list cX6_list 2 (some .int) 1 := ⟨k_684, k_685, k_686, k_7, k_687, ⟨by decide, by decide, by decide +kernel⟩⟩
theorem m_L_80 : jx_mV RL 80 RX6 yX6_count cX6_count 4 (some .int) 1 := ⟨k_688, k_689, k_690, k_7, k_691, ⟨by decide, by decide, by decide +kernel⟩⟩
theorem m_X6_128 : jx_mV RX6 128 RX6 yX6_counts cX6_counts 3 (some .boolean) 2 := ⟨k_692, k_693, k_816, k_7, k_694, ⟨by decide, by decide, by decide +kernel⟩⟩
theorem m_L_84 : jx_mV RL 84 RX6 yX6_events cX6_events 1 (some .int) 0 := ⟨k_695, k_696, k_697, k_7, k_698, ⟨by decide, by decide, by decide +kernel⟩⟩
theorem m_L_88 : jx_mV RL 88 RX6 yX6_event cX6_event 3 (some .int) 2 := ⟨k_699, k_700, k_701, k_7, k_702, ⟨by decide, by decide, by decide +kernel⟩⟩
theorem m_X6_131 : jx_mV RX6 131 RX6 yX6_eventOf cX6_eventOf 3 (some .int) 2 := ⟨k_703, k_704, k_817, k_7, k_705, ⟨by decide, by decide, by decide +kernel⟩⟩
theorem m_L_93 : jx_mV RL 93 RX6 yX6_meanAck cX6_meanAck 1 (some .float) 0 := ⟨k_706, k_707, k_708, k_7, k_709, ⟨by decide, by decide, by decide +kernel⟩⟩
theorem m_L_97 : jx_mV RL 97 RX6 yX6_worst cX6_worst 6 (some .int) 0 := ⟨k_710, k_711, k_712, k_7, k_713, ⟨by decide, by decide, by decide +kernel⟩⟩
theorem m_L_101 : jx_mV RL 101 RX6 yX6_replay cX6_replay 3 (some .int) 2 := ⟨k_714, k_715, k_716, k_7, k_717, ⟨by decide, by decide, by decide +kernel⟩⟩
theorem m_X6_134 : jx_mV RX6 134 RX6 yX6_plays cX6_plays 10 (some .int) 2 := ⟨k_718, k_719, k_818, k_7, k_720, ⟨by decide, by decide, by decide +kernel⟩⟩
theorem m_L_105 : jx_mV RL 105 RX6 yX6_leastDeadband cX6_leastDeadband 4 (some .int) 2 := ⟨k_721, k_722, k_723, k_7, k_724, ⟨by decide, by decide, by decide +kernel⟩⟩
theorem m_L_109 : jx_mV RL 109 RX6 yX6_type cX6_type 2 (some .int) 1 := ⟨k_725, k_726, k_727, k_7, k_728, ⟨by decide, by decide, by decide +kernel⟩⟩
theorem m_L_113 : jx_mV RL 113 RX6 yX6_clear cX6_clear 2 (some .int) 0 := ⟨k_729, k_730, k_731, k_7, k_732, ⟨by decide, by decide, by decide +kernel⟩⟩
theorem m_L_117 : jx_mV RL 117 RX6 yX6_run cX6_run 3 (some .int) 0 := ⟨k_733, k_734, k_735, k_7, k_736, ⟨by decide, by decide, by decide +kernel⟩⟩
theorem m_X6_165 : jx_mV RX6 165 RX6 yX6_reads cX6_reads 2 (some .boolean) 0 := ⟨k_737, k_738, k_819, k_7, k_739, ⟨by decide, by decide, by decide +kernel⟩⟩
theorem m_X6_162 : jx_mV RX6 162 RX6 yX6_readsCommand cX6_readsCommand 4 (some .boolean) 0 := ⟨k_740, k_741, k_820, k_7, k_742, ⟨by decide, by decide, by decide +kernel⟩⟩
theorem m_X6_155 : jx_mV RX6 155 RX6 yX6_word cX6_word 3 (some .boolean) 0 := ⟨k_743, k_744, k_821, k_7, k_745, ⟨by decide, by decide, by decide +kernel⟩⟩
theorem m_X6_143 : jx_mV RX6 143 RX6 yX6_sign cX6_sign 1 (some .int) 0 := ⟨k_746, k_747, k_822, k_7, k_748, ⟨by decide, by decide, by decide +kernel⟩⟩
theorem m_X6_152 : jx_mV RX6 152 RX6 yX6_three cX6_three 4 (some .boolean) 3 := ⟨k_749, k_750, k_823, k_7, k_751, ⟨by decide, by decide, by decide +kernel⟩⟩
theorem m_X6_146 : jx_mV RX6 146 RX6 yX6_takes cX6_takes 3 (some .boolean) 1 := ⟨k_752, k_753, k_824, k_7, k_754, ⟨by decide, by decide, by decide +kernel⟩⟩
theorem m_X6_159 : jx_mV RX6 159 RX6 yX6_number cX6_number 4 (some .boolean) 1 := ⟨k_755, k_756, k_825, k_7, k_757, ⟨by decide, by decide, by decide +kernel⟩⟩
theorem m_X6_168 : jx_mV RX6 168 RX6 yX6_does cX6_does 4 (some .int) 1 := ⟨k_758, k_759, k_826, k_7, k_760, ⟨by decide, by decide, by decide +kernel⟩⟩
theorem m_L_121 : jx_mV RL 121 RX6 yX6_undo cX6_undo 2 (some .int) 0 := ⟨k_761, k_762, k_763, k_7, k_764, ⟨by decide, by decide, by decide +kernel⟩⟩
theorem m_L_126 : jx_mV RL 126 RX6 yX6_fingerprint cX6_fingerprint 5 (some .long) 0 := ⟨k_765, k_766, k_767, k_7, k_768, ⟨by decide, by decide, by decide +kernel⟩⟩
theorem m_X5_9 : jx_mIN RX5 9 yX3_init cX3_init 1 0 := ⟨by simp [jx_nm], k_24, k_2, k_25, rfl, ⟨by decide, by decide, by decide +kernel⟩⟩
theorem m_X4_19 : jx_mIN RX4 19 yX0_init cX0_init 1 0 := ⟨by simp [jx_nm], k_51, k_4, k_52, rfl, ⟨by decide, by decide, by decide +kernel⟩⟩
theorem m_X4_26 : jx_mIN RX4 26 yX1_init cX1_init 1 0 := ⟨by simp [jx_nm], k_68, k_5, k_69, rfl, ⟨by decide, by decide, by decide +kernel⟩⟩
theorem m_X4_31 : jx_mIN RX4 31 yX2_init cX2_init 1 0 := ⟨by simp [jx_nm], k_77, k_6, k_78, rfl, ⟨by decide, by decide, by decide +kernel⟩⟩
theorem m_X4_61 : jx_mSN RX4 61 yX5_isIn cX5_isIn 3 (some .boolean) 3 := ⟨by simp [jx_nm], k_156, k_1, k_157, ⟨by decide, by decide, by decide +kernel⟩⟩
theorem m_X2_61 : jx_mSN RX2 61 yX5_isIn cX5_isIn 3 (some .boolean) 3 := ⟨by simp [jx_nm], k_156, k_1, k_157, ⟨by decide, by decide, by decide +kernel⟩⟩
theorem m_X3_90 : jx_mSN RX3 90 yX5_isIn cX5_isIn 3 (some .boolean) 3 := ⟨by simp [jx_nm], k_156, k_1, k_157, ⟨by decide, by decide, by decide +kernel⟩⟩
theorem nw_L_7 : jx_nw RL 7 5 6 := ⟨RX5, TX5, tyX5, by omega, rfl, jwX5, tyX5_ok, k_14, k_15, k_1, by decide +kernel⟩
theorem nw_X5_7 : jx_nw RX5 7 3 8 := ⟨RX3, TX3, tyX3, by omega, rfl, jwX3, tyX3_ok, k_22, k_23, k_2, by decide +kernel⟩
theorem nw_X5_20 : jx_nw RX5 20 4 9 := ⟨RX4, TX4, tyX4, by omega, rfl, jwX4, tyX4_ok, k_42, k_43, k_3, by decide +kernel⟩
theorem nw_X4_9 : jx_nw RX4 9 2 11 := ⟨RX2, TX2, tyX2, by omega, rfl, jwX2, tyX2_ok, k_48, k_76, k_6, by decide +kernel⟩
theorem nw_X4_17 : jx_nw RX4 17 0 6 := ⟨RX0, TX0, tyX0, by omega, rfl, jwX0, tyX0_ok, k_49, k_50, k_4, by decide +kernel⟩
theorem nw_X4_24 : jx_nw RX4 24 1 4 := ⟨RX1, TX1, tyX1, by omega, rfl, jwX1, tyX1_ok, k_66, k_67, k_5, by decide +kernel⟩
theorem nw_L_10 : jx_nw RL 10 6 11 := ⟨RX6, TX6, tyX6, by omega, rfl, jwX6, tyX6_ok, k_530, k_531, k_7, by decide +kernel⟩
end
section
/-! ===== reading behind writes; short forms of contracts; rows over natural numbers ===== -/
theorem jx_upS {I : jx_I} {a k : Nat} {x : Int32} : jx_up I a k x a k = x := by simp [jx_up, upd]
theorem jx_upK {I : jx_I} {a k b k' : Nat} {x : Int32} (h : k' ≠ k) : jx_up I a k x b k' = I b k' := by
  by_cases hb : b = a <;> simp [jx_up, upd, hb, h]
theorem jx_upA {I : jx_I} {a k b k' : Nat} {x : Int32} (h : b ≠ a) : jx_up I a k x b k' = I b k' := by simp [jx_up, h]
theorem jx_upRS {R : jx_R} {a k : Nat} {x : Option Nat} : jx_upR R a k x a k = x := by simp [jx_upR, va_up]
theorem jx_upRK {R : jx_R} {a k b k' : Nat} {x : Option Nat} (h : k' ≠ k) : jx_upR R a k x b k' = R b k' := by
  by_cases hb : b = a <;> simp [jx_upR, va_up, hb, h]
theorem jx_upRA {R : jx_R} {a k b k' : Nat} {x : Option Nat} (h : b ≠ a) : jx_upR R a k x b k' = R b k' := by simp [jx_upR, h]
def bi (b : Bool) : Int32 := cond b 1 0
theorem bi_t : bi true = 1 := rfl
theorem bi_f : bi false = 0 := rfl
theorem bi_n (b : Bool) : narrow .boolean (.int (bi b)) = .int (bi b) := by cases b <;> rfl
theorem bi_fit (b : Bool) : fits .boolean (.int (bi b)) = true := by cases b <;> rfl
theorem bi_0 {b : Bool} : bi b = 0 ↔ b = false := by cases b <;> simp [bi]
theorem bi_1 {b : Bool} : bi b = 1 ↔ b = true := by cases b <;> simp [bi]
theorem bi_inj {a b : Bool} : bi a = bi b ↔ a = b := by cases a <;> cases b <;> simp [bi]
def jx_Q0 (n : Nat) (kd : jx_K) (R : jx_R) (P : Option Value → jx_I → Prop) : jx_Q := fun v n' kd' R' I' => n' = n ∧ kd' = kd ∧ R' = R ∧ P v I'
def jx_Pi (P : Int32 → jx_I → Prop) : Option Value → jx_I → Prop := fun v I' => ∃ x : Int32, v = some (.int x) ∧ P x I'
def jx_Pv (P : jx_I → Prop) : Option Value → jx_I → Prop := fun v I' => v = none ∧ P I'
/-- contracts of methods that make nothing and turn no reference -/
def jx_C0 (E : jx_E) (l : Launch) (y : MethodName) (cd : ByteArray) (nL : Nat) (ret : Option FieldType) (d n : Nat) (kd : jx_K) (R : jx_R) (I : jx_I) (as : List Value) (P : Option Value → jx_I → Prop) : Prop := jx_Ct E l y cd nL ret d 0 0 n kd R I as (jx_Q0 n kd R P)
def jx_Ci (E : jx_E) (l : Launch) (y : MethodName) (cd : ByteArray) (nL : Nat) (ret : Option FieldType) (d n : Nat) (kd : jx_K) (R : jx_R) (I : jx_I) (as : List Value) (P : Int32 → jx_I → Prop) : Prop := jx_C0 E l y cd nL ret d n kd R I as (jx_Pi P)
def jx_Cv (E : jx_E) (l : Launch) (y : MethodName) (cd : ByteArray) (nL : Nat) (ret : Option FieldType) (d n : Nat) (kd : jx_K) (R : jx_R) (I : jx_I) (as : List Value) (P : jx_I → Prop) : Prop := jx_C0 E l y cd nL ret d n kd R I as (jx_Pv P)
abbrev jx_rm (d : Nat) : Room := { frames := d, cells := 0, slots := 0, locals := 32 * d }
theorem jx_C0.ofJ {E : jx_E} {l : Launch} {y : MethodName} {cd : ByteArray} {nL : Nat} {ret : Option FieldType} {d n : Nat} {kd : jx_K} {R : jx_R} {I : jx_I} {as : List Value} {P : Option Value → jx_I → Prop} (own : String) (lv : List (Option Value)) (hy : plainName y.cls = true) (ho : y.cls = own) (hi : (y.name == "<init>") = false) (hn : (lg_sl as).length ≤ nL) (hlv : jx_args as ++ List.replicate (nL - (lg_sl as).length) none = lv)
    (k : jx_J E l cd nL ret own false (jx_rm d) 0 0 (jx_Q0 n kd R P) 0 0 n kd R I 0 lv []) : jx_C0 E l y cd nL ret d n kd R I as P := by
  subst ho
  exact jx_Ct.ofJ false lv hy hi hn hlv k
theorem jx_Ct.post {E : jx_E} {l : Launch} {y : MethodName} {cd : ByteArray} {nL : Nat} {ret : Option FieldType} {d mc ms n : Nat} {kd : jx_K} {R : jx_R} {I : jx_I} {as : List Value} {Q Q' : jx_Q} (h : jx_Ct E l y cd nL ret d mc ms n kd R I as Q) (hq : ∀ v n' kd' R' I', Q v n' kd' R' I' → Q' v n' kd' R' I') : jx_Ct E l y cd nL ret d mc ms n kd R I as Q' := by
  intro p e ha hc hk s m args below hf happ hP hK
  obtain ⟨k, o, h1, h2, h3, ⟨⟨⟨v, n', kd', R', I', e1, e2, e3⟩, h4⟩, h5⟩⟩ := h p e ha hc hk s m args below hf happ hP hK
  exact ⟨k, o, h1, h2, h3, ⟨⟨⟨v, n', kd', R', I', e1, hq _ _ _ _ _ e2, e3⟩, h4⟩, h5⟩⟩
section JR
variable {E : jx_E} {l : Launch} {cd : ByteArray} {nL : Nat} {ret : Option FieldType} {own : String} {ini : Bool} {Rm : Room} {mc ms : Nat} {Q : jx_Q} {cells slots n : Nat} {kd : jx_K} {R : jx_R} {I : jx_I} {pc pc' : Nat} {lv : List (Option Value)} {st : List Value}
theorem j_reti {P : Int32 → jx_I → Prop} {x : Int32} {ty : FieldType} (hd : decode cd pc = .ok (.ireturn, 1)) (hr : ret = some ty) (hn : narrow ty (.int x) = .int x) (h : P x I) : jx_J E l cd nL ret own ini Rm 0 0 (jx_Q0 n kd R (jx_Pi P)) 0 0 n kd R I pc lv [.int x] :=
  j_ireturn hd hr hn ⟨rfl, rfl, rfl, x, rfl, h⟩
theorem j_retv {P : jx_I → Prop} (hd : decode cd pc = .ok (.return_, 1)) (hr : ret = none) (h : P I) : jx_J E l cd nL ret own ini Rm 0 0 (jx_Q0 n kd R (jx_Pv P)) 0 0 n kd R I pc lv [] :=
  j_return hd hr ⟨rfl, rfl, rfl, rfl, h⟩
theorem j_retA {P : Option Value → jx_I → Prop} {a : Nat} {nm : String} (hd : decode cd pc = .ok (.areturn, 1)) (hr : ret = some (.object nm)) (h : P (some (.ref a)) I) : jx_J E l cd nL ret own ini Rm 0 0 (jx_Q0 n kd R P) 0 0 n kd R I pc lv [.ref a] :=
  j_areturn hd hr ⟨rfl, rfl, rfl, h⟩
theorem j_retL {P : Option Value → jx_I → Prop} {x : Int64} (hd : decode cd pc = .ok (.lreturn, 1)) (hr : ret = some .long) (h : P (some (.long x)) I) : jx_J E l cd nL ret own ini Rm 0 0 (jx_Q0 n kd R P) 0 0 n kd R I pc lv [.long x] :=
  j_lreturn hd hr ⟨rfl, rfl, rfl, h⟩
theorem j_retF {P : Option Value → jx_I → Prop} {x : UInt32} (hd : decode cd pc = .ok (.freturn, 1)) (hr : ret = some .float) (h : P (some (.float x)) I) : jx_J E l cd nL ret own ini Rm 0 0 (jx_Q0 n kd R P) 0 0 n kd R I pc lv [.float x] :=
  j_freturn hd hr ⟨rfl, rfl, rfl, h⟩
variable {y : MethodName} {cd1 : ByteArray} {nL1 ix k1 d1 : Nat} {ret1 : Option FieldType} {As rest : List Value}
theorem j_cVi {C : String} {T : u_T} {b ci mm N : Nat} {P : Int32 → jx_I → Prop} (hm : jx_mV own ix C y cd1 nL1 ret1 k1) (hC : jx_Ci E l y cd1 nL1 ret1 d1 n kd R I (.ref b :: As) P) (hk : kd b = (ci, mm)) (hc7 : ci < 7) (hc : vwCl[ci]? = some (C, T, N)) (hs : As.reverse ++ .ref b :: rest = st) (hl1 : As.length = k1) (hR : d1 + 1 ≤ Rm.frames ∧ 8 + (nL1 + 11) + 32 * d1 ≤ Rm.locals) (hf : cells ≤ Rm.cells ∧ slots ≤ Rm.slots) (hcat : (rest.map fun v => v.category).sum ≤ 8) (hd : decode cd pc = .ok (.invokevirtual ix, 3)) (hp : pc + 3 = pc') (k : ∀ (x : Int32) (I1 : jx_I), P x I1 → jx_J E l cd nL ret own ini Rm mc ms Q cells slots n kd R I1 pc' lv (.int x :: rest)) : jx_J E l cd nL ret own ini Rm mc ms Q cells slots n kd R I pc lv st :=
  j_callV hm hC hk hc7 hc hs hl1 hR hf hcat hd hp (fun v n1 kd1 R1 I1 h _ => by
    obtain ⟨rfl, rfl, rfl, x, rfl, h⟩ := h
    exact k x I1 h)
theorem j_cSi {P : Int32 → jx_I → Prop} (hm : jx_mS own ix y cd1 nL1 ret1 k1) (hC : jx_Ci E l y cd1 nL1 ret1 d1 n kd R I As P) (hs : As.reverse ++ rest = st) (hl1 : As.length = k1) (hR : d1 + 1 ≤ Rm.frames ∧ 8 + (nL1 + 11) + 32 * d1 ≤ Rm.locals) (hf : cells ≤ Rm.cells ∧ slots ≤ Rm.slots) (hcat : (rest.map fun v => v.category).sum ≤ 8) (hd : decode cd pc = .ok (.invokestatic ix, 3)) (hp : pc + 3 = pc') (k : ∀ (x : Int32) (I1 : jx_I), P x I1 → jx_J E l cd nL ret own ini Rm mc ms Q cells slots n kd R I1 pc' lv (.int x :: rest)) : jx_J E l cd nL ret own ini Rm mc ms Q cells slots n kd R I pc lv st :=
  j_callS hm hC hs hl1 hR hf hcat hd hp (fun v n1 kd1 R1 I1 h _ => by
    obtain ⟨rfl, rfl, rfl, x, rfl, h⟩ := h
    exact k x I1 h)
theorem j_cSNi {P : Int32 → jx_I → Prop} (hm : jx_mSN own ix y cd1 nL1 ret1 k1) (hC : jx_Ci E l y cd1 nL1 ret1 d1 n kd R I As P) (hs : As.reverse ++ rest = st) (hl1 : As.length = k1) (hR : d1 + 1 ≤ Rm.frames ∧ 8 + (nL1 + 11) + 32 * d1 ≤ Rm.locals) (hf : cells ≤ Rm.cells ∧ slots ≤ Rm.slots) (hcat : (rest.map fun v => v.category).sum ≤ 8) (hd : decode cd pc = .ok (.invokestatic ix, 3)) (hp : pc + 3 = pc') (k : ∀ (x : Int32) (I1 : jx_I), P x I1 → jx_J E l cd nL ret own ini Rm mc ms Q cells slots n kd R I1 pc' lv (.int x :: rest)) : jx_J E l cd nL ret own ini Rm mc ms Q cells slots n kd R I pc lv st :=
  j_callSN hm hC hs hl1 hR hf hcat hd hp (fun v n1 kd1 R1 I1 h _ => by
    obtain ⟨rfl, rfl, rfl, x, rfl, h⟩ := h
    exact k x I1 h)
theorem j_cVv {C : String} {T : u_T} {b ci mm N : Nat} {P : jx_I → Prop} (hm : jx_mV own ix C y cd1 nL1 ret1 k1) (hC : jx_Cv E l y cd1 nL1 ret1 d1 n kd R I (.ref b :: As) P) (hk : kd b = (ci, mm)) (hc7 : ci < 7) (hc : vwCl[ci]? = some (C, T, N)) (hs : As.reverse ++ .ref b :: rest = st) (hl1 : As.length = k1) (hR : d1 + 1 ≤ Rm.frames ∧ 8 + (nL1 + 11) + 32 * d1 ≤ Rm.locals) (hf : cells ≤ Rm.cells ∧ slots ≤ Rm.slots) (hcat : (rest.map fun v => v.category).sum ≤ 8) (hd : decode cd pc = .ok (.invokevirtual ix, 3)) (hp : pc + 3 = pc') (k : ∀ (I1 : jx_I), P I1 → jx_J E l cd nL ret own ini Rm mc ms Q cells slots n kd R I1 pc' lv rest) : jx_J E l cd nL ret own ini Rm mc ms Q cells slots n kd R I pc lv st :=
  j_callV hm hC hk hc7 hc hs hl1 hR hf hcat hd hp (fun v n1 kd1 R1 I1 h _ => by
    obtain ⟨rfl, rfl, rfl, rfl, h⟩ := h
    exact k I1 h)
theorem j_cSv {P : jx_I → Prop} (hm : jx_mS own ix y cd1 nL1 ret1 k1) (hC : jx_Cv E l y cd1 nL1 ret1 d1 n kd R I As P) (hs : As.reverse ++ rest = st) (hl1 : As.length = k1) (hR : d1 + 1 ≤ Rm.frames ∧ 8 + (nL1 + 11) + 32 * d1 ≤ Rm.locals) (hf : cells ≤ Rm.cells ∧ slots ≤ Rm.slots) (hcat : (rest.map fun v => v.category).sum ≤ 8) (hd : decode cd pc = .ok (.invokestatic ix, 3)) (hp : pc + 3 = pc') (k : ∀ (I1 : jx_I), P I1 → jx_J E l cd nL ret own ini Rm mc ms Q cells slots n kd R I1 pc' lv rest) : jx_J E l cd nL ret own ini Rm mc ms Q cells slots n kd R I pc lv st :=
  j_callS hm hC hs hl1 hR hf hcat hd hp (fun v n1 kd1 R1 I1 h _ => by
    obtain ⟨rfl, rfl, rfl, rfl, h⟩ := h
    exact k I1 h)
theorem j_cSNv {P : jx_I → Prop} (hm : jx_mSN own ix y cd1 nL1 ret1 k1) (hC : jx_Cv E l y cd1 nL1 ret1 d1 n kd R I As P) (hs : As.reverse ++ rest = st) (hl1 : As.length = k1) (hR : d1 + 1 ≤ Rm.frames ∧ 8 + (nL1 + 11) + 32 * d1 ≤ Rm.locals) (hf : cells ≤ Rm.cells ∧ slots ≤ Rm.slots) (hcat : (rest.map fun v => v.category).sum ≤ 8) (hd : decode cd pc = .ok (.invokestatic ix, 3)) (hp : pc + 3 = pc') (k : ∀ (I1 : jx_I), P I1 → jx_J E l cd nL ret own ini Rm mc ms Q cells slots n kd R I1 pc' lv rest) : jx_J E l cd nL ret own ini Rm mc ms Q cells slots n kd R I pc lv st :=
  j_callSN hm hC hs hl1 hR hf hcat hd hp (fun v n1 kd1 R1 I1 h _ => by
    obtain ⟨rfl, rfl, rfl, rfl, h⟩ := h
    exact k I1 h)
theorem j_cV0 {C : String} {T : u_T} {b ci mm N : Nat} {P : Option Value → jx_I → Prop} (hm : jx_mV own ix C y cd1 nL1 ret1 k1) (hC : jx_C0 E l y cd1 nL1 ret1 d1 n kd R I (.ref b :: As) P) (hk : kd b = (ci, mm)) (hc7 : ci < 7) (hc : vwCl[ci]? = some (C, T, N)) (hs : As.reverse ++ .ref b :: rest = st) (hl1 : As.length = k1) (hR : d1 + 1 ≤ Rm.frames ∧ 8 + (nL1 + 11) + 32 * d1 ≤ Rm.locals) (hf : cells ≤ Rm.cells ∧ slots ≤ Rm.slots) (hcat : (rest.map fun v => v.category).sum ≤ 8) (hd : decode cd pc = .ok (.invokevirtual ix, 3)) (hp : pc + 3 = pc') (k : ∀ (v : Option Value) (I1 : jx_I), P v I1 → jx_J E l cd nL ret own ini Rm mc ms Q cells slots n kd R I1 pc' lv (v.toList ++ rest)) : jx_J E l cd nL ret own ini Rm mc ms Q cells slots n kd R I pc lv st :=
  j_callV hm hC hk hc7 hc hs hl1 hR hf hcat hd hp (fun v n1 kd1 R1 I1 h _ => by
    obtain ⟨rfl, rfl, rfl, h⟩ := h
    exact k v I1 h)
theorem j_cS0 {P : Option Value → jx_I → Prop} (hm : jx_mS own ix y cd1 nL1 ret1 k1) (hC : jx_C0 E l y cd1 nL1 ret1 d1 n kd R I As P) (hs : As.reverse ++ rest = st) (hl1 : As.length = k1) (hR : d1 + 1 ≤ Rm.frames ∧ 8 + (nL1 + 11) + 32 * d1 ≤ Rm.locals) (hf : cells ≤ Rm.cells ∧ slots ≤ Rm.slots) (hcat : (rest.map fun v => v.category).sum ≤ 8) (hd : decode cd pc = .ok (.invokestatic ix, 3)) (hp : pc + 3 = pc') (k : ∀ (v : Option Value) (I1 : jx_I), P v I1 → jx_J E l cd nL ret own ini Rm mc ms Q cells slots n kd R I1 pc' lv (v.toList ++ rest)) : jx_J E l cd nL ret own ini Rm mc ms Q cells slots n kd R I pc lv st :=
  j_callS hm hC hs hl1 hR hf hcat hd hp (fun v n1 kd1 R1 I1 h _ => by
    obtain ⟨rfl, rfl, rfl, h⟩ := h
    exact k v I1 h)
theorem j_cSN0 {P : Option Value → jx_I → Prop} (hm : jx_mSN own ix y cd1 nL1 ret1 k1) (hC : jx_C0 E l y cd1 nL1 ret1 d1 n kd R I As P) (hs : As.reverse ++ rest = st) (hl1 : As.length = k1) (hR : d1 + 1 ≤ Rm.frames ∧ 8 + (nL1 + 11) + 32 * d1 ≤ Rm.locals) (hf : cells ≤ Rm.cells ∧ slots ≤ Rm.slots) (hcat : (rest.map fun v => v.category).sum ≤ 8) (hd : decode cd pc = .ok (.invokestatic ix, 3)) (hp : pc + 3 = pc') (k : ∀ (v : Option Value) (I1 : jx_I), P v I1 → jx_J E l cd nL ret own ini Rm mc ms Q cells slots n kd R I1 pc' lv (v.toList ++ rest)) : jx_J E l cd nL ret own ini Rm mc ms Q cells slots n kd R I pc lv st :=
  j_callSN hm hC hs hl1 hR hf hcat hd hp (fun v n1 kd1 R1 I1 h _ => by
    obtain ⟨rfl, rfl, rfl, h⟩ := h
    exact k v I1 h)
theorem j_iaddN {a b : Nat} (hd : decode cd pc = .ok (.iadd, 1)) (hp : pc + 1 = pc') (k : jx_J E l cd nL ret own ini Rm mc ms Q cells slots n kd R I pc' lv (.int (nI (a + b)) :: st)) : jx_J E l cd nL ret own ini Rm mc ms Q cells slots n kd R I pc lv (.int (nI b) :: .int (nI a) :: st) := j_iadd hd hp (by rw [nI_add]; exact k)
theorem j_imulN {a b : Nat} (hd : decode cd pc = .ok (.imul, 1)) (hp : pc + 1 = pc') (k : jx_J E l cd nL ret own ini Rm mc ms Q cells slots n kd R I pc' lv (.int (nI (a * b)) :: st)) : jx_J E l cd nL ret own ini Rm mc ms Q cells slots n kd R I pc lv (.int (nI b) :: .int (nI a) :: st) := j_imul hd hp (by rw [pk_mul]; exact k)
theorem j_isubN {a b : Nat} (hab : b ≤ a) (hd : decode cd pc = .ok (.isub, 1)) (hp : pc + 1 = pc') (k : jx_J E l cd nL ret own ini Rm mc ms Q cells slots n kd R I pc' lv (.int (nI (a - b)) :: st)) : jx_J E l cd nL ret own ini Rm mc ms Q cells slots n kd R I pc lv (.int (nI b) :: .int (nI a) :: st) := j_isub hd hp (by rw [pk_sub hab]; exact k)
theorem j_iremN {a b : Nat} (ha : a < 2147483648) (h0 : 0 < b) (hb : b < 2147483648) (hd : decode cd pc = .ok (.irem, 1)) (hp : pc + 1 = pc') (k : jx_J E l cd nL ret own ini Rm mc ms Q cells slots n kd R I pc' lv (.int (nI (a % b)) :: st)) : jx_J E l cd nL ret own ini Rm mc ms Q cells slots n kd R I pc lv (.int (nI b) :: .int (nI a) :: st) := j_irem hd hp (nI_ne0 h0 hb) (by rw [pk_rem ha h0 hb]; exact k)
theorem j_idivN {a b : Nat} (ha : a < 2147483648) (h0 : 0 < b) (hb : b < 2147483648) (hd : decode cd pc = .ok (.idiv, 1)) (hp : pc + 1 = pc') (k : jx_J E l cd nL ret own ini Rm mc ms Q cells slots n kd R I pc' lv (.int (nI (a / b)) :: st)) : jx_J E l cd nL ret own ini Rm mc ms Q cells slots n kd R I pc lv (.int (nI b) :: .int (nI a) :: st) := j_idiv hd hp (nI_ne0 h0 hb) (by rw [pk_div ha h0 hb]; exact k)
theorem j_iincN {i a : Nat} {lv' : List (Option Value)} (hd : decode cd pc = .ok (.iinc i 1, 3)) (hp : pc + 3 = pc') (hx : lv[i]? = some (some (.int (nI a)))) (hn : i < nL) (hi : jx_st1 lv i (.int (nI (a + 1))) = lv') (k : jx_J E l cd nL ret own ini Rm mc ms Q cells slots n kd R I pc' lv' st) : jx_J E l cd nL ret own ini Rm mc ms Q cells slots n kd R I pc lv st := j_iinc hd hp hx (show nI a + 1 = nI (a + 1) from nI_1 a) hn hi k
theorem j_iincP {i a : Nat} {lv' : List (Option Value)} (ha : 0 < a) (hd : decode cd pc = .ok (.iinc i (-1), 3)) (hp : pc + 3 = pc') (hx : lv[i]? = some (some (.int (nI a)))) (hn : i < nL) (hi : jx_st1 lv i (.int (nI (a - 1))) = lv') (k : jx_J E l cd nL ret own ini Rm mc ms Q cells slots n kd R I pc' lv' st) : jx_J E l cd nL ret own ini Rm mc ms Q cells slots n kd R I pc lv st := j_iinc hd hp hx (by obtain ⟨b, rfl⟩ : ∃ b, a = b + 1 := ⟨a - 1, by omega⟩; exact pk_m1 b) hn hi k
theorem j_icmp_eqN {a b : Nat} {off : Int} {tgt : Nat} (ha : a < 2147483648) (hb : b < 2147483648) (hd : decode cd pc = .ok (.if_icmp .eq off, 3)) (hp : pc + 3 = pc') (ht : (pc : Int) + off = (tgt : Int)) (kt : a = b → jx_J E l cd nL ret own ini Rm mc ms Q cells slots n kd R I tgt lv st) (kf : a ≠ b → jx_J E l cd nL ret own ini Rm mc ms Q cells slots n kd R I pc' lv st) : jx_J E l cd nL ret own ini Rm mc ms Q cells slots n kd R I pc lv (.int (nI b) :: .int (nI a) :: st) :=
  j_icmp_eq hd hp ht (fun h => kt ((nI_eq ha hb).mp h)) (fun h => kf (fun z => h ((nI_eq ha hb).mpr z)))
theorem j_if_eqN {a : Nat} {off : Int} {tgt : Nat} (ha : a < 2147483648) (hd : decode cd pc = .ok (.ifCond .eq off, 3)) (hp : pc + 3 = pc') (ht : (pc : Int) + off = (tgt : Int)) (kt : a = 0 → jx_J E l cd nL ret own ini Rm mc ms Q cells slots n kd R I tgt lv st) (kf : a ≠ 0 → jx_J E l cd nL ret own ini Rm mc ms Q cells slots n kd R I pc' lv st) : jx_J E l cd nL ret own ini Rm mc ms Q cells slots n kd R I pc lv (.int (nI a) :: st) :=
  j_if_eq hd hp ht (fun h => kt ((nI_eq ha (by decide : 0 < 2147483648)).mp h)) (fun h => kf (fun z => h ((nI_eq ha (by decide : 0 < 2147483648)).mpr z)))
theorem j_icmp_neN {a b : Nat} {off : Int} {tgt : Nat} (ha : a < 2147483648) (hb : b < 2147483648) (hd : decode cd pc = .ok (.if_icmp .ne off, 3)) (hp : pc + 3 = pc') (ht : (pc : Int) + off = (tgt : Int)) (kt : a ≠ b → jx_J E l cd nL ret own ini Rm mc ms Q cells slots n kd R I tgt lv st) (kf : a = b → jx_J E l cd nL ret own ini Rm mc ms Q cells slots n kd R I pc' lv st) : jx_J E l cd nL ret own ini Rm mc ms Q cells slots n kd R I pc lv (.int (nI b) :: .int (nI a) :: st) :=
  j_icmp_ne hd hp ht (fun h => kt (fun z => h ((nI_eq ha hb).mpr z))) (fun h => kf ((nI_eq ha hb).mp h))
theorem j_if_neN {a : Nat} {off : Int} {tgt : Nat} (ha : a < 2147483648) (hd : decode cd pc = .ok (.ifCond .ne off, 3)) (hp : pc + 3 = pc') (ht : (pc : Int) + off = (tgt : Int)) (kt : a ≠ 0 → jx_J E l cd nL ret own ini Rm mc ms Q cells slots n kd R I tgt lv st) (kf : a = 0 → jx_J E l cd nL ret own ini Rm mc ms Q cells slots n kd R I pc' lv st) : jx_J E l cd nL ret own ini Rm mc ms Q cells slots n kd R I pc lv (.int (nI a) :: st) :=
  j_if_ne hd hp ht (fun h => kt (fun z => h ((nI_eq ha (by decide : 0 < 2147483648)).mpr z))) (fun h => kf ((nI_eq ha (by decide : 0 < 2147483648)).mp h))
theorem j_icmp_ltN {a b : Nat} {off : Int} {tgt : Nat} (ha : a < 2147483648) (hb : b < 2147483648) (hd : decode cd pc = .ok (.if_icmp .lt off, 3)) (hp : pc + 3 = pc') (ht : (pc : Int) + off = (tgt : Int)) (kt : a < b → jx_J E l cd nL ret own ini Rm mc ms Q cells slots n kd R I tgt lv st) (kf : b ≤ a → jx_J E l cd nL ret own ini Rm mc ms Q cells slots n kd R I pc' lv st) : jx_J E l cd nL ret own ini Rm mc ms Q cells slots n kd R I pc lv (.int (nI b) :: .int (nI a) :: st) :=
  j_icmp_lt hd hp ht (fun h => kt ((nI_ltI ha hb).mp h)) (fun h => kf (Nat.not_lt.mp fun z => h ((nI_ltI ha hb).mpr z)))
theorem j_if_ltN {a : Nat} {off : Int} {tgt : Nat} (ha : a < 2147483648) (hd : decode cd pc = .ok (.ifCond .lt off, 3)) (hp : pc + 3 = pc') (ht : (pc : Int) + off = (tgt : Int)) (kt : a < 0 → jx_J E l cd nL ret own ini Rm mc ms Q cells slots n kd R I tgt lv st) (kf : 0 ≤ a → jx_J E l cd nL ret own ini Rm mc ms Q cells slots n kd R I pc' lv st) : jx_J E l cd nL ret own ini Rm mc ms Q cells slots n kd R I pc lv (.int (nI a) :: st) :=
  j_if_lt hd hp ht (fun h => kt ((nI_ltI ha (by decide : 0 < 2147483648)).mp h)) (fun h => kf (Nat.not_lt.mp fun z => h ((nI_ltI ha (by decide : 0 < 2147483648)).mpr z)))
theorem j_icmp_geN {a b : Nat} {off : Int} {tgt : Nat} (ha : a < 2147483648) (hb : b < 2147483648) (hd : decode cd pc = .ok (.if_icmp .ge off, 3)) (hp : pc + 3 = pc') (ht : (pc : Int) + off = (tgt : Int)) (kt : b ≤ a → jx_J E l cd nL ret own ini Rm mc ms Q cells slots n kd R I tgt lv st) (kf : a < b → jx_J E l cd nL ret own ini Rm mc ms Q cells slots n kd R I pc' lv st) : jx_J E l cd nL ret own ini Rm mc ms Q cells slots n kd R I pc lv (.int (nI b) :: .int (nI a) :: st) :=
  j_icmp_ge hd hp ht (fun h => kt ((nI_leI hb ha).mp h)) (fun h => kf (Nat.not_le.mp fun z => h ((nI_leI hb ha).mpr z)))
theorem j_if_geN {a : Nat} {off : Int} {tgt : Nat} (ha : a < 2147483648) (hd : decode cd pc = .ok (.ifCond .ge off, 3)) (hp : pc + 3 = pc') (ht : (pc : Int) + off = (tgt : Int)) (kt : 0 ≤ a → jx_J E l cd nL ret own ini Rm mc ms Q cells slots n kd R I tgt lv st) (kf : a < 0 → jx_J E l cd nL ret own ini Rm mc ms Q cells slots n kd R I pc' lv st) : jx_J E l cd nL ret own ini Rm mc ms Q cells slots n kd R I pc lv (.int (nI a) :: st) :=
  j_if_ge hd hp ht (fun h => kt ((nI_leI (by decide : 0 < 2147483648) ha).mp h)) (fun h => kf (Nat.not_le.mp fun z => h ((nI_leI (by decide : 0 < 2147483648) ha).mpr z)))
theorem j_icmp_gtN {a b : Nat} {off : Int} {tgt : Nat} (ha : a < 2147483648) (hb : b < 2147483648) (hd : decode cd pc = .ok (.if_icmp .gt off, 3)) (hp : pc + 3 = pc') (ht : (pc : Int) + off = (tgt : Int)) (kt : b < a → jx_J E l cd nL ret own ini Rm mc ms Q cells slots n kd R I tgt lv st) (kf : a ≤ b → jx_J E l cd nL ret own ini Rm mc ms Q cells slots n kd R I pc' lv st) : jx_J E l cd nL ret own ini Rm mc ms Q cells slots n kd R I pc lv (.int (nI b) :: .int (nI a) :: st) :=
  j_icmp_gt hd hp ht (fun h => kt ((nI_ltI hb ha).mp h)) (fun h => kf (Nat.not_lt.mp fun z => h ((nI_ltI hb ha).mpr z)))
theorem j_if_gtN {a : Nat} {off : Int} {tgt : Nat} (ha : a < 2147483648) (hd : decode cd pc = .ok (.ifCond .gt off, 3)) (hp : pc + 3 = pc') (ht : (pc : Int) + off = (tgt : Int)) (kt : 0 < a → jx_J E l cd nL ret own ini Rm mc ms Q cells slots n kd R I tgt lv st) (kf : a ≤ 0 → jx_J E l cd nL ret own ini Rm mc ms Q cells slots n kd R I pc' lv st) : jx_J E l cd nL ret own ini Rm mc ms Q cells slots n kd R I pc lv (.int (nI a) :: st) :=
  j_if_gt hd hp ht (fun h => kt ((nI_ltI (by decide : 0 < 2147483648) ha).mp h)) (fun h => kf (Nat.not_lt.mp fun z => h ((nI_ltI (by decide : 0 < 2147483648) ha).mpr z)))
theorem j_icmp_leN {a b : Nat} {off : Int} {tgt : Nat} (ha : a < 2147483648) (hb : b < 2147483648) (hd : decode cd pc = .ok (.if_icmp .le off, 3)) (hp : pc + 3 = pc') (ht : (pc : Int) + off = (tgt : Int)) (kt : a ≤ b → jx_J E l cd nL ret own ini Rm mc ms Q cells slots n kd R I tgt lv st) (kf : b < a → jx_J E l cd nL ret own ini Rm mc ms Q cells slots n kd R I pc' lv st) : jx_J E l cd nL ret own ini Rm mc ms Q cells slots n kd R I pc lv (.int (nI b) :: .int (nI a) :: st) :=
  j_icmp_le hd hp ht (fun h => kt ((nI_leI ha hb).mp h)) (fun h => kf (Nat.not_le.mp fun z => h ((nI_leI ha hb).mpr z)))
theorem j_if_leN {a : Nat} {off : Int} {tgt : Nat} (ha : a < 2147483648) (hd : decode cd pc = .ok (.ifCond .le off, 3)) (hp : pc + 3 = pc') (ht : (pc : Int) + off = (tgt : Int)) (kt : a ≤ 0 → jx_J E l cd nL ret own ini Rm mc ms Q cells slots n kd R I tgt lv st) (kf : 0 < a → jx_J E l cd nL ret own ini Rm mc ms Q cells slots n kd R I pc' lv st) : jx_J E l cd nL ret own ini Rm mc ms Q cells slots n kd R I pc lv (.int (nI a) :: st) :=
  j_if_le hd hp ht (fun h => kt ((nI_leI ha (by decide : 0 < 2147483648)).mp h)) (fun h => kf (Nat.not_le.mp fun z => h ((nI_leI ha (by decide : 0 < 2147483648)).mpr z)))
theorem j_if_eqB {b : Bool} {off : Int} {tgt : Nat} (hd : decode cd pc = .ok (.ifCond .eq off, 3)) (hp : pc + 3 = pc') (ht : (pc : Int) + off = (tgt : Int)) (kt : b = false → jx_J E l cd nL ret own ini Rm mc ms Q cells slots n kd R I tgt lv st) (kf : b = true → jx_J E l cd nL ret own ini Rm mc ms Q cells slots n kd R I pc' lv st) : jx_J E l cd nL ret own ini Rm mc ms Q cells slots n kd R I pc lv (.int (bi b) :: st) :=
  j_if_eq hd hp ht (fun h => kt (bi_0.mp h)) (fun h => kf (by cases b; exact absurd rfl h; rfl))
theorem j_if_neB {b : Bool} {off : Int} {tgt : Nat} (hd : decode cd pc = .ok (.ifCond .ne off, 3)) (hp : pc + 3 = pc') (ht : (pc : Int) + off = (tgt : Int)) (kt : b = true → jx_J E l cd nL ret own ini Rm mc ms Q cells slots n kd R I tgt lv st) (kf : b = false → jx_J E l cd nL ret own ini Rm mc ms Q cells slots n kd R I pc' lv st) : jx_J E l cd nL ret own ini Rm mc ms Q cells slots n kd R I pc lv (.int (bi b) :: st) :=
  j_if_ne hd hp ht (fun h => kt (by cases b; exact absurd rfl h; rfl)) (fun h => kf (bi_0.mp h))
end JR
section JR
variable {E : jx_E} {l : Launch} {cd : ByteArray} {nL : Nat} {ret : Option FieldType} {own : String} {ini : Bool} {Rm : Room} {mc ms : Nat} {Q : jx_Q} {cells slots n : Nat} {kd : jx_K} {R : jx_R} {I : jx_I} {pc pc' : Nat} {lv : List (Option Value)} {st : List Value}
theorem j_getIv {ix ci k0 a mm : Nat} {ty : FieldType} {fin : Bool} {v : Int32} (hf : jx_fl own ix ci k0 false ty fin) (hk : kd a = (ci, mm)) (hv : I a k0 = v) (hd : decode cd pc = .ok (.getfield ix, 3)) (hp : pc + 3 = pc') (k : jx_J E l cd nL ret own ini Rm mc ms Q cells slots n kd R I pc' lv (.int v :: st)) : jx_J E l cd nL ret own ini Rm mc ms Q cells slots n kd R I pc lv (.ref a :: st) := j_getI hf hk hd hp (by rw [hv]; exact k)
theorem j_ialdv {a mm j : Nat} {i v : Int32} (hk : kd a = (7, mm)) (hi : i = nI j) (hj : j < mm) (hm : mm < 2147483648) (hv : I a j = v) (hd : decode cd pc = .ok (.iaload, 1)) (hp : pc + 1 = pc') (k : jx_J E l cd nL ret own ini Rm mc ms Q cells slots n kd R I pc' lv (.int v :: st)) : jx_J E l cd nL ret own ini Rm mc ms Q cells slots n kd R I pc lv (.int i :: .ref a :: st) := j_iald hk hi hj hm hd hp (by rw [hv]; exact k)
end JR
theorem nI1 : nI 1 = 1 := rfl
theorem bi_T {b : Bool} (h : b = true) : nI 1 = bi b := by rw [h]; rfl
theorem bi_F {b : Bool} (h : b = false) : nI 0 = bi b := by rw [h]; rfl
theorem ic_nlt {x y : Int32} : ¬ x < y ↔ y ≤ x := Int32.not_lt
theorem ic_nle {x y : Int32} : ¬ x ≤ y ↔ y < x := Int32.not_le
end
section
set_option maxRecDepth 100000 in
set_option maxHeartbeats 4000000 in
theorem c_X5_isIn (E : jx_E) (l : Launch) (n : Nat) (kd : jx_K) (R : jx_R) (I : jx_I) (x a b : Int32)  : jx_Ci E l yX5_isIn cX5_isIn 3 (some .boolean) 0 n kd R I [.int x, .int a, .int b] (fun r I' => r = bi (decide (a ≤ x ∧ x ≤ b)) ∧ I' = I) := by
  refine jx_C0.ofJ RX5 [some (.int x), some (.int a), some (.int b)] (by decide) rfl rfl (Nat.le_of_ble_eq_true rfl) rfl ?_
  refine j_iload_n (pc' := 1) dX5_isIn_0 rfl rfl ?_
  refine j_iload_n (pc' := 2) dX5_isIn_1 rfl rfl ?_
  first | refine j_icmp_ltN (tgt := 14) (pc' := 5) (by omega) (by omega) dX5_isIn_2 rfl (by decide) (fun c2 => ?_) (fun c2 => ?_) | refine j_icmp_lt (tgt := 14) (pc' := 5) dX5_isIn_2 rfl (by decide) (fun c2 => ?_) (fun c2 => ?_)
  ·
    refine j_iconst (pc' := 15) (v := nI 0) dX5_isIn_14 rfl rfl ?_
    refine j_reti dX5_isIn_15 rfl (by first | rfl | exact bi_n _) ?_
    refine ⟨?_, rfl⟩
    first | (refine bi_T (decide_eq_true ?_); simp only [Int32.le_iff_toInt_le, Int32.lt_iff_toInt_lt] at *; omega) | (refine bi_F (decide_eq_false ?_); simp only [Int32.le_iff_toInt_le, Int32.lt_iff_toInt_lt] at *; omega)
  ·
    refine j_iload_n (pc' := 6) dX5_isIn_5 rfl rfl ?_
    refine j_iload_n (pc' := 7) dX5_isIn_6 rfl rfl ?_
    first | refine j_icmp_gtN (tgt := 14) (pc' := 10) (by omega) (by omega) dX5_isIn_7 rfl (by decide) (fun c7 => ?_) (fun c7 => ?_) | refine j_icmp_gt (tgt := 14) (pc' := 10) dX5_isIn_7 rfl (by decide) (fun c7 => ?_) (fun c7 => ?_)
    ·
      refine j_iconst (pc' := 15) (v := nI 0) dX5_isIn_14 rfl rfl ?_
      refine j_reti dX5_isIn_15 rfl (by first | rfl | exact bi_n _) ?_
      refine ⟨?_, rfl⟩
      first | (refine bi_T (decide_eq_true ?_); simp only [Int32.le_iff_toInt_le, Int32.lt_iff_toInt_lt] at *; omega) | (refine bi_F (decide_eq_false ?_); simp only [Int32.le_iff_toInt_le, Int32.lt_iff_toInt_lt] at *; omega)
    ·
      refine j_iconst (pc' := 11) (v := nI 1) dX5_isIn_10 rfl rfl ?_
      refine j_goto (tgt := 15) dX5_isIn_11 (by decide) ?_
      refine j_reti dX5_isIn_15 rfl (by first | rfl | exact bi_n _) ?_
      refine ⟨?_, rfl⟩
      first | (refine bi_T (decide_eq_true ?_); simp only [Int32.le_iff_toInt_le, Int32.lt_iff_toInt_lt] at *; omega) | (refine bi_F (decide_eq_false ?_); simp only [Int32.le_iff_toInt_le, Int32.lt_iff_toInt_lt] at *; omega)

set_option maxRecDepth 100000 in
set_option maxHeartbeats 4000000 in
theorem c_X6_in (E : jx_E) (l : Launch) (n : Nat) (kd : jx_K) (R : jx_R) (I : jx_I) (x a b : Int32)  : jx_Ci E l yX6_in cX6_in 3 (some .boolean) 0 n kd R I [.int x, .int a, .int b] (fun r I' => r = bi (decide (a ≤ x ∧ x ≤ b)) ∧ I' = I) := by
  refine jx_C0.ofJ RX6 [some (.int x), some (.int a), some (.int b)] (by decide) rfl rfl (Nat.le_of_ble_eq_true rfl) rfl ?_
  refine j_iload_n (pc' := 1) dX6_in_0 rfl rfl ?_
  refine j_iload_n (pc' := 2) dX6_in_1 rfl rfl ?_
  first | refine j_icmp_ltN (tgt := 14) (pc' := 5) (by omega) (by omega) dX6_in_2 rfl (by decide) (fun c2 => ?_) (fun c2 => ?_) | refine j_icmp_lt (tgt := 14) (pc' := 5) dX6_in_2 rfl (by decide) (fun c2 => ?_) (fun c2 => ?_)
  ·
    refine j_iconst (pc' := 15) (v := nI 0) dX6_in_14 rfl rfl ?_
    refine j_reti dX6_in_15 rfl (by first | rfl | exact bi_n _) ?_
    refine ⟨?_, rfl⟩
    first | (refine bi_T (decide_eq_true ?_); simp only [Int32.le_iff_toInt_le, Int32.lt_iff_toInt_lt] at *; omega) | (refine bi_F (decide_eq_false ?_); simp only [Int32.le_iff_toInt_le, Int32.lt_iff_toInt_lt] at *; omega)
  ·
    refine j_iload_n (pc' := 6) dX6_in_5 rfl rfl ?_
    refine j_iload_n (pc' := 7) dX6_in_6 rfl rfl ?_
    first | refine j_icmp_gtN (tgt := 14) (pc' := 10) (by omega) (by omega) dX6_in_7 rfl (by decide) (fun c7 => ?_) (fun c7 => ?_) | refine j_icmp_gt (tgt := 14) (pc' := 10) dX6_in_7 rfl (by decide) (fun c7 => ?_) (fun c7 => ?_)
    ·
      refine j_iconst (pc' := 15) (v := nI 0) dX6_in_14 rfl rfl ?_
      refine j_reti dX6_in_15 rfl (by first | rfl | exact bi_n _) ?_
      refine ⟨?_, rfl⟩
      first | (refine bi_T (decide_eq_true ?_); simp only [Int32.le_iff_toInt_le, Int32.lt_iff_toInt_lt] at *; omega) | (refine bi_F (decide_eq_false ?_); simp only [Int32.le_iff_toInt_le, Int32.lt_iff_toInt_lt] at *; omega)
    ·
      refine j_iconst (pc' := 11) (v := nI 1) dX6_in_10 rfl rfl ?_
      refine j_goto (tgt := 15) dX6_in_11 (by decide) ?_
      refine j_reti dX6_in_15 rfl (by first | rfl | exact bi_n _) ?_
      refine ⟨?_, rfl⟩
      first | (refine bi_T (decide_eq_true ?_); simp only [Int32.le_iff_toInt_le, Int32.lt_iff_toInt_lt] at *; omega) | (refine bi_F (decide_eq_false ?_); simp only [Int32.le_iff_toInt_le, Int32.lt_iff_toInt_lt] at *; omega)

set_option maxRecDepth 100000 in
set_option maxHeartbeats 4000000 in
theorem c_X5_isError (E : jx_E) (l : Launch) (n : Nat) (kd : jx_K) (R : jx_R) (I : jx_I) (x : Int32)  : jx_Ci E l yX5_isError cX5_isError 1 (some .boolean) 0 n kd R I [.int x] (fun r I' => r = bi (decide (x ≤ -20001)) ∧ I' = I) := by
  refine jx_C0.ofJ RX5 [some (.int x)] (by decide) rfl rfl (Nat.le_of_ble_eq_true rfl) rfl ?_
  refine j_iload_n (pc' := 1) dX5_isError_0 rfl rfl ?_
  refine j_sipush (pc' := 4) (v := -20001) dX5_isError_1 rfl rfl ?_
  first | refine j_icmp_gtN (tgt := 11) (pc' := 7) (by omega) (by omega) dX5_isError_4 rfl (by decide) (fun c4 => ?_) (fun c4 => ?_) | refine j_icmp_gt (tgt := 11) (pc' := 7) dX5_isError_4 rfl (by decide) (fun c4 => ?_) (fun c4 => ?_)
  ·
    refine j_iconst (pc' := 12) (v := nI 0) dX5_isError_11 rfl rfl ?_
    refine j_reti dX5_isError_12 rfl (by first | rfl | exact bi_n _) ?_
    refine ⟨?_, rfl⟩
    first | (refine bi_T (decide_eq_true ?_); simp only [Int32.le_iff_toInt_le, Int32.lt_iff_toInt_lt] at *; omega) | (refine bi_F (decide_eq_false ?_); simp only [Int32.le_iff_toInt_le, Int32.lt_iff_toInt_lt] at *; omega)
  ·
    refine j_iconst (pc' := 8) (v := nI 1) dX5_isError_7 rfl rfl ?_
    refine j_goto (tgt := 12) dX5_isError_8 (by decide) ?_
    refine j_reti dX5_isError_12 rfl (by first | rfl | exact bi_n _) ?_
    refine ⟨?_, rfl⟩
    first | (refine bi_T (decide_eq_true ?_); simp only [Int32.le_iff_toInt_le, Int32.lt_iff_toInt_lt] at *; omega) | (refine bi_F (decide_eq_false ?_); simp only [Int32.le_iff_toInt_le, Int32.lt_iff_toInt_lt] at *; omega)
end
section
/-! ===== the reference's own cells ===== -/
def sMd (kd : jx_K) (R : jx_R) (m : Nat) : Prop := kd m = (6, 0) ∧ kd (m + 1) = (7, 1080) ∧ kd (m + 2) = (7, 1080) ∧ kd (m + 3) = (7, 4320) ∧ kd (m + 4) = (7, 16) ∧ kd (m + 5) = (7, 80) ∧ kd (m + 6) = (7, 63) ∧ R m 0 = some (m + 1) ∧ R m 1 = some (m + 2) ∧ R m 2 = some (m + 3) ∧ R m 4 = some (m + 4) ∧ R m 6 = some (m + 5) ∧ R m 10 = some (m + 6)
def mI (I0 : jx_I) (m : Nat) (F v a p o t c : Nat → Int32) : jx_I := fun b => if b = m then F else if b = m + 1 then v else if b = m + 2 then a else if b = m + 3 then p else if b = m + 4 then o else if b = m + 5 then t else if b = m + 6 then c else I0 b
theorem mI_0 {I0 : jx_I} {m : Nat} {F v a p o t c : Nat → Int32} : mI I0 m F v a p o t c m = F := by simp [mI]
theorem mW_0 {I0 : jx_I} {m : Nat} {F v a p o t c : Nat → Int32} {j : Nat} {x : Int32} : jx_up (mI I0 m F v a p o t c) m j x = mI I0 m (upd F j x) v a p o t c := by
  funext b
  by_cases hb : b = m
  · subst hb
    simp [jx_up, mI]
  · simp [jx_up, mI, hb]
theorem mI_1 {I0 : jx_I} {m : Nat} {F v a p o t c : Nat → Int32} : mI I0 m F v a p o t c (m + 1) = v := by simp [mI]
theorem mW_1 {I0 : jx_I} {m : Nat} {F v a p o t c : Nat → Int32} {j : Nat} {x : Int32} : jx_up (mI I0 m F v a p o t c) (m + 1) j x = mI I0 m F (upd v j x) a p o t c := by
  funext b
  by_cases hb : b = (m + 1)
  · subst hb
    simp [jx_up, mI]
  · simp [jx_up, mI, hb]
theorem mI_2 {I0 : jx_I} {m : Nat} {F v a p o t c : Nat → Int32} : mI I0 m F v a p o t c (m + 2) = a := by simp [mI]
theorem mW_2 {I0 : jx_I} {m : Nat} {F v a p o t c : Nat → Int32} {j : Nat} {x : Int32} : jx_up (mI I0 m F v a p o t c) (m + 2) j x = mI I0 m F v (upd a j x) p o t c := by
  funext b
  by_cases hb : b = (m + 2)
  · subst hb
    simp [jx_up, mI]
  · simp [jx_up, mI, hb]
theorem mI_3 {I0 : jx_I} {m : Nat} {F v a p o t c : Nat → Int32} : mI I0 m F v a p o t c (m + 3) = p := by simp [mI]
theorem mW_3 {I0 : jx_I} {m : Nat} {F v a p o t c : Nat → Int32} {j : Nat} {x : Int32} : jx_up (mI I0 m F v a p o t c) (m + 3) j x = mI I0 m F v a (upd p j x) o t c := by
  funext b
  by_cases hb : b = (m + 3)
  · subst hb
    simp [jx_up, mI]
  · simp [jx_up, mI, hb]
theorem mI_4 {I0 : jx_I} {m : Nat} {F v a p o t c : Nat → Int32} : mI I0 m F v a p o t c (m + 4) = o := by simp [mI]
theorem mW_4 {I0 : jx_I} {m : Nat} {F v a p o t c : Nat → Int32} {j : Nat} {x : Int32} : jx_up (mI I0 m F v a p o t c) (m + 4) j x = mI I0 m F v a p (upd o j x) t c := by
  funext b
  by_cases hb : b = (m + 4)
  · subst hb
    simp [jx_up, mI]
  · simp [jx_up, mI, hb]
theorem mI_5 {I0 : jx_I} {m : Nat} {F v a p o t c : Nat → Int32} : mI I0 m F v a p o t c (m + 5) = t := by simp [mI]
theorem mW_5 {I0 : jx_I} {m : Nat} {F v a p o t c : Nat → Int32} {j : Nat} {x : Int32} : jx_up (mI I0 m F v a p o t c) (m + 5) j x = mI I0 m F v a p o (upd t j x) c := by
  funext b
  by_cases hb : b = (m + 5)
  · subst hb
    simp [jx_up, mI]
  · simp [jx_up, mI, hb]
theorem mI_6 {I0 : jx_I} {m : Nat} {F v a p o t c : Nat → Int32} : mI I0 m F v a p o t c (m + 6) = c := by simp [mI]
theorem mW_6 {I0 : jx_I} {m : Nat} {F v a p o t c : Nat → Int32} {j : Nat} {x : Int32} : jx_up (mI I0 m F v a p o t c) (m + 6) j x = mI I0 m F v a p o t (upd c j x) := by
  funext b
  by_cases hb : b = (m + 6)
  · subst hb
    simp [jx_up, mI]
  · simp [jx_up, mI, hb]
theorem mI_ne {I0 : jx_I} {m : Nat} {F v a p o t c : Nat → Int32} {b : Nat} (h : b < m ∨ m + 6 < b) : mI I0 m F v a p o t c b = I0 b := by
  unfold mI
  rw [if_neg (by omega), if_neg (by omega), if_neg (by omega), if_neg (by omega), if_neg (by omega), if_neg (by omega), if_neg (by omega)]
theorem mI_eta (I : jx_I) (m : Nat) : mI I m (I m) (I (m + 1)) (I (m + 2)) (I (m + 3)) (I (m + 4)) (I (m + 5)) (I (m + 6)) = I := by
  funext b
  unfold mI
  repeat' split
  all_goals (first | rfl | (subst_vars; rfl))
end
section
def pf (i w : Nat) : Nat := 176 + 56 * i + w
/-- the number of events, and one more of them -/
def evN (v : Nat → Int32) : Nat := (v 9).toNatClampNeg
theorem evN_of {v : Nat → Int32} {N : Nat} (h : v 9 = nI N) (hb : N < 2147483000) : evN v = N := by rw [evN, h, nI_clamp (by omega)]
def sHapN (v : Nat → Int32) (N : Nat) (w p : Int32) : Nat → Int32 := upd (upd (upd (upd v (80 + 3 * (N % 30)) (v 1)) (80 + 3 * (N % 30) + 1) w) (80 + 3 * (N % 30) + 2) p) 9 (nI (N + 1))
def sHap (v : Nat → Int32) (w p : Int32) : Nat → Int32 := sHapN v (evN v) w p
theorem sHap_o {v : Nat → Int32} {w p : Int32} {j : Nat} (h : j ≠ 9 ∧ (j < 80 ∨ 170 ≤ j)) : sHap v w p j = v j := by
  unfold sHap sHapN
  have : evN v % 30 < 30 := Nat.mod_lt _ (by decide)
  rw [pk_un (by omega), pk_un (by omega), pk_un (by omega), pk_un (by omega)]
theorem sHap_9 {v : Nat → Int32} {N : Nat} {w p : Int32} (h : v 9 = nI N) (hb : N < 2147483000) : sHap v w p 9 = nI (N + 1) := by
  unfold sHap sHapN
  rw [evN_of h hb, pk_us]
def okP (v : Nat → Int32) (p : Int32) : Bool := decide (nI 0 ≤ p ∧ p ≤ v 0 - nI 1)
def okV (x : Int32) : Bool := decide ((-10000 : Int32) ≤ x ∧ x ≤ nI 10000)
theorem okP_nat {v : Nat → Int32} {p : Int32} {k : Nat} (hk : v 0 = nI k) (h16 : k ≤ 16) (h : okP v p = true) : ∃ i, i < k ∧ p = nI i := by
  obtain ⟨h1, h2⟩ := of_decide_eq_true h
  rw [hk] at h2
  rcases Nat.eq_zero_or_pos k with h0 | h0
  · subst h0
    exfalso
    simp only [Int32.le_iff_toInt_le] at h1 h2
    have e1 : (nI 0).toInt = 0 := rfl
    have e2 : (nI 0 - nI 1).toInt = -1 := rfl
    omega
  · rw [pk_sub (by omega)] at h2
    obtain ⟨j, hj, rfl⟩ := nI_of (fun z => Int32.not_lt.mpr h1 z)
    have := (nI_leI hj (by omega)).mp h2
    exact ⟨j, by omega, rfl⟩
theorem okP_of {v : Nat → Int32} {k i : Nat} (hk : v 0 = nI k) (h16 : k ≤ 16) (hi : i < k) : okP v (nI i) = true := by
  refine decide_eq_true ⟨nI_le (by omega) (by omega), ?_⟩
  rw [hk, pk_sub (by omega)]
  exact nI_le (by omega) (by omega)

set_option maxRecDepth 100000 in
set_option maxHeartbeats 4000000 in
theorem c_X6_of {E : jx_E} {l : Launch} {n : Nat} {kd : jx_K} {R : jx_R} {I0 : jx_I} {m : Nat} {F v a p o t c : Nat → Int32} {i w : Nat} (hs : sMd kd R m) (hi : i < 16) (hw : w < 56) : jx_Ci E l yX6_of cX6_of 3 (some .int) 0 n kd R (mI I0 m F v a p o t c) [.ref m, .int (nI i), .int (nI w)] (fun r I' => r = v (176 + 56 * i + w) ∧ I' = mI I0 m F v a p o t c) := by
  obtain ⟨K0, K1, K2, K3, K4, K5, K6, R0, R1, R2, R4, R6, R10⟩ := id hs
  refine jx_C0.ofJ RX6 [some (.ref m), some (.int (nI i)), some (.int (nI w))] (by decide) rfl rfl (Nat.le_of_ble_eq_true rfl) rfl ?_
  refine j_aload_n (pc' := 1) dX6_of_0 rfl rfl ?_
  refine j_getR (pc' := 4) f_X6_7 (by assumption) (by assumption) dX6_of_1 rfl ?_
  refine j_sipush (pc' := 7) (v := nI 176) dX6_of_4 rfl rfl ?_
  refine j_bipush (pc' := 9) (v := nI 56) dX6_of_7 rfl rfl ?_
  refine j_iload_n (pc' := 10) dX6_of_9 rfl rfl ?_
  first | refine j_imulN (pc' := 11) dX6_of_10 rfl ?_ | refine j_imul (pc' := 11) dX6_of_10 rfl ?_
  first | refine j_iaddN (pc' := 12) dX6_of_11 rfl ?_ | refine j_iadd (pc' := 12) dX6_of_11 rfl ?_
  refine j_iload_n (pc' := 13) dX6_of_12 rfl rfl ?_
  first | refine j_iaddN (pc' := 14) dX6_of_13 rfl ?_ | refine j_iadd (pc' := 14) dX6_of_13 rfl ?_
  refine j_ialdv (pc' := 15) (by assumption) rfl (by omega) (by omega) (by first | (simp (disch := omega) only [jx_upS, jx_upK, jx_upA, mI_0, mI_1, mI_2, mI_3, mI_4, mI_5, mI_6, pk_us, pk_un]; rfl) | rfl) dX6_of_14 rfl ?_
  refine j_reti dX6_of_15 rfl (by first | rfl | exact bi_n _) ?_
  exact ⟨rfl, rfl⟩

set_option maxRecDepth 100000 in
set_option maxHeartbeats 4000000 in
theorem c_X6_puts {E : jx_E} {l : Launch} {n : Nat} {kd : jx_K} {R : jx_R} {I0 : jx_I} {m : Nat} {F v a p o t c : Nat → Int32} {i w : Nat} {x : Int32} (hs : sMd kd R m) (hi : i < 16) (hw : w < 56) : jx_Cv E l yX6_puts cX6_puts 4 none 0 n kd R (mI I0 m F v a p o t c) [.ref m, .int (nI i), .int (nI w), .int x] (fun I' => I' = mI I0 m F (upd v (176 + 56 * i + w) x) a p o t c) := by
  obtain ⟨K0, K1, K2, K3, K4, K5, K6, R0, R1, R2, R4, R6, R10⟩ := id hs
  refine jx_C0.ofJ RX6 [some (.ref m), some (.int (nI i)), some (.int (nI w)), some (.int x)] (by decide) rfl rfl (Nat.le_of_ble_eq_true rfl) rfl ?_
  refine j_aload_n (pc' := 1) dX6_puts_0 rfl rfl ?_
  refine j_getR (pc' := 4) f_X6_7 (by assumption) (by assumption) dX6_puts_1 rfl ?_
  refine j_sipush (pc' := 7) (v := nI 176) dX6_puts_4 rfl rfl ?_
  refine j_bipush (pc' := 9) (v := nI 56) dX6_puts_7 rfl rfl ?_
  refine j_iload_n (pc' := 10) dX6_puts_9 rfl rfl ?_
  first | refine j_imulN (pc' := 11) dX6_puts_10 rfl ?_ | refine j_imul (pc' := 11) dX6_puts_10 rfl ?_
  first | refine j_iaddN (pc' := 12) dX6_puts_11 rfl ?_ | refine j_iadd (pc' := 12) dX6_puts_11 rfl ?_
  refine j_iload_n (pc' := 13) dX6_puts_12 rfl rfl ?_
  first | refine j_iaddN (pc' := 14) dX6_puts_13 rfl ?_ | refine j_iadd (pc' := 14) dX6_puts_13 rfl ?_
  refine j_iload_n (pc' := 15) dX6_puts_14 rfl rfl ?_
  refine j_iast (pc' := 16) (by assumption) rfl (by omega) (by omega) dX6_puts_15 rfl ?_
  first | refine j_eqI mW_1 ?_ | refine j_eqI mW_2 ?_ | refine j_eqI mW_3 ?_ | refine j_eqI mW_4 ?_ | refine j_eqI mW_5 ?_ | refine j_eqI mW_6 ?_
  refine j_retv dX6_puts_16 rfl ?_
  rfl

set_option maxRecDepth 100000 in
set_option maxHeartbeats 4000000 in
theorem c_X6_isPoint {E : jx_E} {l : Launch} {n : Nat} {kd : jx_K} {R : jx_R} {I0 : jx_I} {m : Nat} {F v a p o t c : Nat → Int32} {x : Int32} (hs : sMd kd R m)  : jx_Ci E l yX6_isPoint cX6_isPoint 2 (some .boolean) 1 n kd R (mI I0 m F v a p o t c) [.ref m, .int x] (fun r I' => r = bi (okP v x) ∧ I' = mI I0 m F v a p o t c) := by
  obtain ⟨K0, K1, K2, K3, K4, K5, K6, R0, R1, R2, R4, R6, R10⟩ := id hs
  refine jx_C0.ofJ RX6 [some (.ref m), some (.int x)] (by decide) rfl rfl (Nat.le_of_ble_eq_true rfl) rfl ?_
  refine j_iload_n (pc' := 1) dX6_isPoint_0 rfl rfl ?_
  refine j_iconst (pc' := 2) (v := nI 0) dX6_isPoint_1 rfl rfl ?_
  refine j_aload_n (pc' := 3) dX6_isPoint_2 rfl rfl ?_
  refine j_getR (pc' := 6) f_X6_7 (by assumption) (by assumption) dX6_isPoint_3 rfl ?_
  refine j_iconst (pc' := 7) (v := nI 0) dX6_isPoint_6 rfl rfl ?_
  refine j_ialdv (pc' := 8) (by assumption) rfl (by omega) (by omega) (by first | (simp (disch := omega) only [jx_upS, jx_upK, jx_upA, mI_0, mI_1, mI_2, mI_3, mI_4, mI_5, mI_6, pk_us, pk_un]; rfl) | rfl) dX6_isPoint_7 rfl ?_
  refine j_iconst (pc' := 9) (v := nI 1) dX6_isPoint_8 rfl rfl ?_
  first | refine j_isubN (pc' := 10) (by omega) dX6_isPoint_9 rfl ?_ | refine j_isub (pc' := 10) dX6_isPoint_9 rfl ?_
  refine j_cSi (pc' := 13) m_X6_32 (c_X6_in E l n kd R _ _ _ _) rfl rfl ⟨Nat.le_of_ble_eq_true rfl, Nat.le_of_ble_eq_true rfl⟩ ⟨Nat.zero_le _, Nat.zero_le _⟩ (Nat.le_of_ble_eq_true rfl) dX6_isPoint_10 rfl (fun x1 I1 hq => ?_)
  obtain ⟨rfl, rfl⟩ := hq
  refine j_reti dX6_isPoint_13 rfl (by first | rfl | exact bi_n _) ?_
  exact ⟨rfl, rfl⟩

set_option maxRecDepth 100000 in
set_option maxHeartbeats 4000000 in
theorem c_X6_isValue (E : jx_E) (l : Launch) (n : Nat) (kd : jx_K) (R : jx_R) (I : jx_I) (x : Int32)  : jx_Ci E l yX6_isValue cX6_isValue 1 (some .boolean) 1 n kd R I [.int x] (fun r I' => r = bi (okV x) ∧ I' = I) := by
  refine jx_C0.ofJ RX6 [some (.int x)] (by decide) rfl rfl (Nat.le_of_ble_eq_true rfl) rfl ?_
  refine j_iload_n (pc' := 1) dX6_isValue_0 rfl rfl ?_
  refine j_sipush (pc' := 4) (v := -10000) dX6_isValue_1 rfl rfl ?_
  refine j_sipush (pc' := 7) (v := nI 10000) dX6_isValue_4 rfl rfl ?_
  refine j_cSi (pc' := 10) m_X6_32 (c_X6_in E l n kd R _ _ _ _) rfl rfl ⟨Nat.le_of_ble_eq_true rfl, Nat.le_of_ble_eq_true rfl⟩ ⟨Nat.zero_le _, Nat.zero_le _⟩ (Nat.le_of_ble_eq_true rfl) dX6_isValue_7 rfl (fun x1 I1 hq => ?_)
  obtain ⟨rfl, rfl⟩ := hq
  refine j_reti dX6_isValue_10 rfl (by first | rfl | exact bi_n _) ?_
  exact ⟨rfl, rfl⟩

set_option maxRecDepth 100000 in
set_option maxHeartbeats 4000000 in
theorem c_X6_happens {E : jx_E} {l : Launch} {n : Nat} {kd : jx_K} {R : jx_R} {I0 : jx_I} {m : Nat} {F v a p o t c : Nat → Int32} {N : Nat} {w x : Int32} (hs : sMd kd R m) (hN : v 9 = nI N) (hNb : N < 2147483000) : jx_Cv E l yX6_happens cX6_happens 4 none 0 n kd R (mI I0 m F v a p o t c) [.ref m, .int w, .int x] (fun I' => I' = mI I0 m F (sHap v w x) a p o t c) := by
  obtain ⟨K0, K1, K2, K3, K4, K5, K6, R0, R1, R2, R4, R6, R10⟩ := id hs
  refine jx_C0.ofJ RX6 [some (.ref m), some (.int w), some (.int x), none] (by decide) rfl rfl (Nat.le_of_ble_eq_true rfl) rfl ?_
  refine j_bipush (pc' := 2) (v := nI 80) dX6_happens_0 rfl rfl ?_
  refine j_iconst (pc' := 3) (v := nI 3) dX6_happens_2 rfl rfl ?_
  refine j_aload_n (pc' := 4) dX6_happens_3 rfl rfl ?_
  refine j_getR (pc' := 7) f_X6_7 (by assumption) (by assumption) dX6_happens_4 rfl ?_
  refine j_bipush (pc' := 9) (v := nI 9) dX6_happens_7 rfl rfl ?_
  refine j_ialdv (pc' := 10) (by assumption) rfl (by omega) (by omega) (by first | (simp (disch := omega) only [jx_upS, jx_upK, jx_upA, mI_0, mI_1, mI_2, mI_3, mI_4, mI_5, mI_6, pk_us, pk_un, hN]; rfl) | rfl) dX6_happens_9 rfl ?_
  refine j_bipush (pc' := 12) (v := nI 30) dX6_happens_10 rfl rfl ?_
  refine j_iremN (pc' := 13) (by omega) (by omega) (by omega) dX6_happens_12 rfl ?_
  first | refine j_imulN (pc' := 14) dX6_happens_13 rfl ?_ | refine j_imul (pc' := 14) dX6_happens_13 rfl ?_
  first | refine j_iaddN (pc' := 15) dX6_happens_14 rfl ?_ | refine j_iadd (pc' := 15) dX6_happens_14 rfl ?_
  refine j_istore_n (pc' := 16) (lv' := [_, _, _, _]) dX6_happens_15 rfl (by decide) rfl ?_
  refine j_aload_n (pc' := 17) dX6_happens_16 rfl rfl ?_
  refine j_getR (pc' := 20) f_X6_7 (by assumption) (by assumption) dX6_happens_17 rfl ?_
  refine j_iload_n (pc' := 21) dX6_happens_20 rfl rfl ?_
  refine j_aload_n (pc' := 22) dX6_happens_21 rfl rfl ?_
  refine j_getR (pc' := 25) f_X6_7 (by assumption) (by assumption) dX6_happens_22 rfl ?_
  refine j_iconst (pc' := 26) (v := nI 1) dX6_happens_25 rfl rfl ?_
  refine j_ialdv (pc' := 27) (by assumption) rfl (by omega) (by omega) (by first | (simp (disch := omega) only [jx_upS, jx_upK, jx_upA, mI_0, mI_1, mI_2, mI_3, mI_4, mI_5, mI_6, pk_us, pk_un, hN]; rfl) | rfl) dX6_happens_26 rfl ?_
  refine j_iast (pc' := 28) (by assumption) rfl (by omega) (by omega) dX6_happens_27 rfl ?_
  first | refine j_eqI mW_1 ?_ | refine j_eqI mW_2 ?_ | refine j_eqI mW_3 ?_ | refine j_eqI mW_4 ?_ | refine j_eqI mW_5 ?_ | refine j_eqI mW_6 ?_
  refine j_aload_n (pc' := 29) dX6_happens_28 rfl rfl ?_
  refine j_getR (pc' := 32) f_X6_7 (by assumption) (by assumption) dX6_happens_29 rfl ?_
  refine j_iload_n (pc' := 33) dX6_happens_32 rfl rfl ?_
  refine j_iconst (pc' := 34) (v := nI 1) dX6_happens_33 rfl rfl ?_
  first | refine j_iaddN (pc' := 35) dX6_happens_34 rfl ?_ | refine j_iadd (pc' := 35) dX6_happens_34 rfl ?_
  refine j_iload_n (pc' := 36) dX6_happens_35 rfl rfl ?_
  refine j_iast (pc' := 37) (by assumption) rfl (by omega) (by omega) dX6_happens_36 rfl ?_
  first | refine j_eqI mW_1 ?_ | refine j_eqI mW_2 ?_ | refine j_eqI mW_3 ?_ | refine j_eqI mW_4 ?_ | refine j_eqI mW_5 ?_ | refine j_eqI mW_6 ?_
  refine j_aload_n (pc' := 38) dX6_happens_37 rfl rfl ?_
  refine j_getR (pc' := 41) f_X6_7 (by assumption) (by assumption) dX6_happens_38 rfl ?_
  refine j_iload_n (pc' := 42) dX6_happens_41 rfl rfl ?_
  refine j_iconst (pc' := 43) (v := nI 2) dX6_happens_42 rfl rfl ?_
  first | refine j_iaddN (pc' := 44) dX6_happens_43 rfl ?_ | refine j_iadd (pc' := 44) dX6_happens_43 rfl ?_
  refine j_iload_n (pc' := 45) dX6_happens_44 rfl rfl ?_
  refine j_iast (pc' := 46) (by assumption) rfl (by omega) (by omega) dX6_happens_45 rfl ?_
  first | refine j_eqI mW_1 ?_ | refine j_eqI mW_2 ?_ | refine j_eqI mW_3 ?_ | refine j_eqI mW_4 ?_ | refine j_eqI mW_5 ?_ | refine j_eqI mW_6 ?_
  refine j_aload_n (pc' := 47) dX6_happens_46 rfl rfl ?_
  refine j_getR (pc' := 50) f_X6_7 (by assumption) (by assumption) dX6_happens_47 rfl ?_
  refine j_bipush (pc' := 52) (v := nI 9) dX6_happens_50 rfl rfl ?_
  refine j_dup2 (pc' := 53) dX6_happens_52 rfl rfl rfl ?_
  refine j_ialdv (pc' := 54) (by assumption) rfl (by omega) (by omega) (by first | (simp (disch := omega) only [jx_upS, jx_upK, jx_upA, mI_0, mI_1, mI_2, mI_3, mI_4, mI_5, mI_6, pk_us, pk_un, hN]; rfl) | rfl) dX6_happens_53 rfl ?_
  refine j_iconst (pc' := 55) (v := nI 1) dX6_happens_54 rfl rfl ?_
  first | refine j_iaddN (pc' := 56) dX6_happens_55 rfl ?_ | refine j_iadd (pc' := 56) dX6_happens_55 rfl ?_
  refine j_iast (pc' := 57) (by assumption) rfl (by omega) (by omega) dX6_happens_56 rfl ?_
  first | refine j_eqI mW_1 ?_ | refine j_eqI mW_2 ?_ | refine j_eqI mW_3 ?_ | refine j_eqI mW_4 ?_ | refine j_eqI mW_5 ?_ | refine j_eqI mW_6 ?_
  refine j_retv dX6_happens_57 rfl ?_
  rw [sHap, evN_of hN hNb]
  rfl

set_option maxRecDepth 100000 in
set_option maxHeartbeats 4000000 in
theorem c_X6_leavesShelf {E : jx_E} {l : Launch} {n : Nat} {kd : jx_K} {R : jx_R} {I0 : jx_I} {m : Nat} {F v a p o t c : Nat → Int32} {i N : Nat} (hs : sMd kd R m) (hi : i < 16) (hN : v 9 = nI N) (hNb : N < 2147483000) : jx_Cv E l yX6_leavesShelf cX6_leavesShelf 2 none 1 n kd R (mI I0 m F v a p o t c) [.ref m, .int (nI i)] (fun I' => I' = mI I0 m F (sHap (upd v (176 + 56 * i + 13) (nI 0)) (nI 5) (nI i)) a p o t c) := by
  obtain ⟨K0, K1, K2, K3, K4, K5, K6, R0, R1, R2, R4, R6, R10⟩ := id hs
  refine jx_C0.ofJ RX6 [some (.ref m), some (.int (nI i))] (by decide) rfl rfl (Nat.le_of_ble_eq_true rfl) rfl ?_
  refine j_aload_n (pc' := 1) dX6_leavesShelf_0 rfl rfl ?_
  refine j_iload_n (pc' := 2) dX6_leavesShelf_1 rfl rfl ?_
  refine j_bipush (pc' := 4) (v := nI 13) dX6_leavesShelf_2 rfl rfl ?_
  refine j_iconst (pc' := 5) (v := nI 0) dX6_leavesShelf_4 rfl rfl ?_
  refine j_cVv (pc' := 8) m_X6_44 (c_X6_puts hs (by omega) (by omega)) (by assumption) (by decide) rfl rfl rfl ⟨Nat.le_of_ble_eq_true rfl, Nat.le_of_ble_eq_true rfl⟩ ⟨Nat.zero_le _, Nat.zero_le _⟩ (Nat.le_of_ble_eq_true rfl) dX6_leavesShelf_5 rfl (fun I1 hq => ?_)
  subst hq
  refine j_aload_n (pc' := 9) dX6_leavesShelf_8 rfl rfl ?_
  refine j_iconst (pc' := 10) (v := nI 5) dX6_leavesShelf_9 rfl rfl ?_
  refine j_iload_n (pc' := 11) dX6_leavesShelf_10 rfl rfl ?_
  refine j_cVv (pc' := 14) m_X6_48 (c_X6_happens hs (by simp (disch := omega) only [pk_us, pk_un, hN]) hNb) (by assumption) (by decide) rfl rfl rfl ⟨Nat.le_of_ble_eq_true rfl, Nat.le_of_ble_eq_true rfl⟩ ⟨Nat.zero_le _, Nat.zero_le _⟩ (Nat.le_of_ble_eq_true rfl) dX6_leavesShelf_11 rfl (fun I1 hq => ?_)
  subst hq
  refine j_retv dX6_leavesShelf_14 rfl ?_
  rfl

set_option maxRecDepth 100000 in
set_option maxHeartbeats 4000000 in
theorem c_X6_values {E : jx_E} {l : Launch} {n : Nat} {kd : jx_K} {R : jx_R} {I0 : jx_I} {m : Nat} {F v a p o t c : Nat → Int32} {k : Nat} {x y : Int32} (hs : sMd kd R m) (hk : v 0 = nI k) (h16 : k ≤ 16) : jx_Ci E l yX6_values cX6_values 4 (some .int) 2 n kd R (mI I0 m F v a p o t c) [.ref m, .int x, .int y] (fun r I' => (okP v x = true ∧ okV y = true ∧ r = v (176 + 56 * x.toNatClampNeg + 7) ∧ I' = mI I0 m F (upd v (176 + 56 * x.toNatClampNeg + 7) y) a p o t c) ∨ ((okP v x = false ∨ okV y = false) ∧ r = -20001 ∧ I' = mI I0 m F v a p o t c)) := by
  obtain ⟨K0, K1, K2, K3, K4, K5, K6, R0, R1, R2, R4, R6, R10⟩ := id hs
  refine jx_C0.ofJ RX6 [some (.ref m), some (.int x), some (.int y), none] (by decide) rfl rfl (Nat.le_of_ble_eq_true rfl) rfl ?_
  refine j_aload_n (pc' := 1) dX6_values_0 rfl rfl ?_
  refine j_iload_n (pc' := 2) dX6_values_1 rfl rfl ?_
  refine j_cVi (pc' := 5) m_X6_52 (c_X6_isPoint hs) (by assumption) (by decide) rfl rfl rfl ⟨Nat.le_of_ble_eq_true rfl, Nat.le_of_ble_eq_true rfl⟩ ⟨Nat.zero_le _, Nat.zero_le _⟩ (Nat.le_of_ble_eq_true rfl) dX6_values_2 rfl (fun x1 I1 hq => ?_)
  obtain ⟨rfl, rfl⟩ := hq
  first | refine j_if_eqB (tgt := 15) (pc' := 8) dX6_values_5 rfl (by decide) (fun c5 => ?_) (fun c5 => ?_) | refine j_if_eqN (tgt := 15) (pc' := 8) (by omega) dX6_values_5 rfl (by decide) (fun c5 => ?_) (fun c5 => ?_) | refine j_if_eq (tgt := 15) (pc' := 8) dX6_values_5 rfl (by decide) (fun c5 => ?_) (fun c5 => ?_)
  ·
    refine j_sipush (pc' := 18) (v := -20001) dX6_values_15 rfl rfl ?_
    refine j_reti dX6_values_18 rfl (by first | rfl | exact bi_n _) ?_
    first | exact Or.inr ⟨Or.inl (by assumption), rfl, rfl⟩ | exact Or.inr ⟨Or.inr (by assumption), rfl, rfl⟩ | (refine Or.inl ⟨by assumption, by assumption, ?_, ?_⟩ <;> rw [nI_clamp (by omega)])
  ·
    refine j_iload_n (pc' := 9) dX6_values_8 rfl rfl ?_
    refine j_cSi (pc' := 12) m_X6_36 (c_X6_isValue E l n kd R _ _) rfl rfl ⟨Nat.le_of_ble_eq_true rfl, Nat.le_of_ble_eq_true rfl⟩ ⟨Nat.zero_le _, Nat.zero_le _⟩ (Nat.le_of_ble_eq_true rfl) dX6_values_9 rfl (fun x1 I1 hq => ?_)
    obtain ⟨rfl, rfl⟩ := hq
    first | refine j_if_neB (tgt := 19) (pc' := 15) dX6_values_12 rfl (by decide) (fun c12 => ?_) (fun c12 => ?_) | refine j_if_neN (tgt := 19) (pc' := 15) (by omega) dX6_values_12 rfl (by decide) (fun c12 => ?_) (fun c12 => ?_) | refine j_if_ne (tgt := 19) (pc' := 15) dX6_values_12 rfl (by decide) (fun c12 => ?_) (fun c12 => ?_)
    ·
      have hok := c5
      obtain ⟨i, hi, rfl⟩ := okP_nat hk h16 c5
      refine j_aload_n (pc' := 20) dX6_values_19 rfl rfl ?_
      refine j_iload_n (pc' := 21) dX6_values_20 rfl rfl ?_
      refine j_bipush (pc' := 23) (v := nI 7) dX6_values_21 rfl rfl ?_
      refine j_cVi (pc' := 26) m_X6_59 (c_X6_of hs (by omega) (by omega)) (by assumption) (by decide) rfl rfl rfl ⟨Nat.le_of_ble_eq_true rfl, Nat.le_of_ble_eq_true rfl⟩ ⟨Nat.zero_le _, Nat.zero_le _⟩ (Nat.le_of_ble_eq_true rfl) dX6_values_23 rfl (fun x1 I1 hq => ?_)
      obtain ⟨rfl, rfl⟩ := hq
      refine j_istore_n (pc' := 27) (lv' := [_, _, _, _]) dX6_values_26 rfl (by decide) rfl ?_
      refine j_aload_n (pc' := 28) dX6_values_27 rfl rfl ?_
      refine j_iload_n (pc' := 29) dX6_values_28 rfl rfl ?_
      refine j_bipush (pc' := 31) (v := nI 7) dX6_values_29 rfl rfl ?_
      refine j_iload_n (pc' := 32) dX6_values_31 rfl rfl ?_
      refine j_cVv (pc' := 35) m_X6_44 (c_X6_puts hs (by omega) (by omega)) (by assumption) (by decide) rfl rfl rfl ⟨Nat.le_of_ble_eq_true rfl, Nat.le_of_ble_eq_true rfl⟩ ⟨Nat.zero_le _, Nat.zero_le _⟩ (Nat.le_of_ble_eq_true rfl) dX6_values_32 rfl (fun I1 hq => ?_)
      subst hq
      refine j_iload_n (pc' := 36) dX6_values_35 rfl rfl ?_
      refine j_reti dX6_values_36 rfl (by first | rfl | exact bi_n _) ?_
      first | exact Or.inr ⟨Or.inl (by assumption), rfl, rfl⟩ | exact Or.inr ⟨Or.inr (by assumption), rfl, rfl⟩ | (refine Or.inl ⟨by assumption, by assumption, ?_, ?_⟩ <;> rw [nI_clamp (by omega)])
    ·
      refine j_sipush (pc' := 18) (v := -20001) dX6_values_15 rfl rfl ?_
      refine j_reti dX6_values_18 rfl (by first | rfl | exact bi_n _) ?_
      first | exact Or.inr ⟨Or.inl (by assumption), rfl, rfl⟩ | exact Or.inr ⟨Or.inr (by assumption), rfl, rfl⟩ | (refine Or.inl ⟨by assumption, by assumption, ?_, ?_⟩ <;> rw [nI_clamp (by omega)])

set_option maxRecDepth 100000 in
set_option maxHeartbeats 4000000 in
theorem c_X6_points {E : jx_E} {l : Launch} {n : Nat} {kd : jx_K} {R : jx_R} {I0 : jx_I} {m : Nat} {F v a p o t c : Nat → Int32}  (hs : sMd kd R m)  : jx_Ci E l yX6_points cX6_points 1 (some .int) 0 n kd R (mI I0 m F v a p o t c) [.ref m] (fun r I' => r = v 0 ∧ I' = mI I0 m F v a p o t c) := by
  obtain ⟨K0, K1, K2, K3, K4, K5, K6, R0, R1, R2, R4, R6, R10⟩ := id hs
  refine jx_C0.ofJ RX6 [some (.ref m)] (by decide) rfl rfl (Nat.le_of_ble_eq_true rfl) rfl ?_
  refine j_aload_n (pc' := 1) dX6_points_0 rfl rfl ?_
  refine j_getR (pc' := 4) f_X6_7 (by assumption) (by assumption) dX6_points_1 rfl ?_
  refine j_iconst (pc' := 5) (v := nI 0) dX6_points_4 rfl rfl ?_
  refine j_ialdv (pc' := 6) (by assumption) rfl (by omega) (by omega) (by first | (simp (disch := omega) only [jx_upS, jx_upK, jx_upA, mI_0, mI_1, mI_2, mI_3, mI_4, mI_5, mI_6, pk_us, pk_un]; rfl) | rfl) dX6_points_5 rfl ?_
  refine j_reti dX6_points_6 rfl (by first | rfl | exact bi_n _) ?_
  exact ⟨rfl, rfl⟩

set_option maxRecDepth 100000 in
set_option maxHeartbeats 4000000 in
theorem c_X6_events {E : jx_E} {l : Launch} {n : Nat} {kd : jx_K} {R : jx_R} {I0 : jx_I} {m : Nat} {F v a p o t c : Nat → Int32}  (hs : sMd kd R m)  : jx_Ci E l yX6_events cX6_events 1 (some .int) 0 n kd R (mI I0 m F v a p o t c) [.ref m] (fun r I' => r = v 9 ∧ I' = mI I0 m F v a p o t c) := by
  obtain ⟨K0, K1, K2, K3, K4, K5, K6, R0, R1, R2, R4, R6, R10⟩ := id hs
  refine jx_C0.ofJ RX6 [some (.ref m)] (by decide) rfl rfl (Nat.le_of_ble_eq_true rfl) rfl ?_
  refine j_aload_n (pc' := 1) dX6_events_0 rfl rfl ?_
  refine j_getR (pc' := 4) f_X6_7 (by assumption) (by assumption) dX6_events_1 rfl ?_
  refine j_bipush (pc' := 6) (v := nI 9) dX6_events_4 rfl rfl ?_
  refine j_ialdv (pc' := 7) (by assumption) rfl (by omega) (by omega) (by first | (simp (disch := omega) only [jx_upS, jx_upK, jx_upA, mI_0, mI_1, mI_2, mI_3, mI_4, mI_5, mI_6, pk_us, pk_un]; rfl) | rfl) dX6_events_6 rfl ?_
  refine j_reti dX6_events_7 rfl (by first | rfl | exact bi_n _) ?_
  exact ⟨rfl, rfl⟩

set_option maxRecDepth 100000 in
set_option maxHeartbeats 4000000 in
theorem c_X6_states {E : jx_E} {l : Launch} {n : Nat} {kd : jx_K} {R : jx_R} {I0 : jx_I} {m : Nat} {F v a p o t c : Nat → Int32} {x : Int32} (hs : sMd kd R m)  : jx_Ci E l yX6_states cX6_states 3 (some .int) 1 n kd R (mI I0 m F v a p o t c) [.ref m, .int x] (fun r I' => (nI 0 ≤ x ∧ x ≤ nI 3 ∧ r = v 2 ∧ I' = mI I0 m F (upd v 2 x) a p o t c) ∨ (¬ (nI 0 ≤ x ∧ x ≤ nI 3) ∧ r = -20001 ∧ I' = mI I0 m F v a p o t c)) := by
  obtain ⟨K0, K1, K2, K3, K4, K5, K6, R0, R1, R2, R4, R6, R10⟩ := id hs
  refine jx_C0.ofJ RX6 [some (.ref m), some (.int x), none] (by decide) rfl rfl (Nat.le_of_ble_eq_true rfl) rfl ?_
  refine j_iload_n (pc' := 1) dX6_states_0 rfl rfl ?_
  refine j_iconst (pc' := 2) (v := nI 0) dX6_states_1 rfl rfl ?_
  refine j_iconst (pc' := 3) (v := nI 3) dX6_states_2 rfl rfl ?_
  refine j_cSi (pc' := 6) m_X6_32 (c_X6_in E l n kd R _ _ _ _) rfl rfl ⟨Nat.le_of_ble_eq_true rfl, Nat.le_of_ble_eq_true rfl⟩ ⟨Nat.zero_le _, Nat.zero_le _⟩ (Nat.le_of_ble_eq_true rfl) dX6_states_3 rfl (fun x1 I1 hq => ?_)
  obtain ⟨rfl, rfl⟩ := hq
  first | refine j_if_neB (tgt := 13) (pc' := 9) dX6_states_6 rfl (by decide) (fun c6 => ?_) (fun c6 => ?_) | refine j_if_neN (tgt := 13) (pc' := 9) (by omega) dX6_states_6 rfl (by decide) (fun c6 => ?_) (fun c6 => ?_) | refine j_if_ne (tgt := 13) (pc' := 9) dX6_states_6 rfl (by decide) (fun c6 => ?_) (fun c6 => ?_)
  ·
    refine j_aload_n (pc' := 14) dX6_states_13 rfl rfl ?_
    refine j_getR (pc' := 17) f_X6_7 (by assumption) (by assumption) dX6_states_14 rfl ?_
    refine j_iconst (pc' := 18) (v := nI 2) dX6_states_17 rfl rfl ?_
    refine j_ialdv (pc' := 19) (by assumption) rfl (by omega) (by omega) (by first | (simp (disch := omega) only [jx_upS, jx_upK, jx_upA, mI_0, mI_1, mI_2, mI_3, mI_4, mI_5, mI_6, pk_us, pk_un]; rfl) | rfl) dX6_states_18 rfl ?_
    refine j_istore_n (pc' := 20) (lv' := [_, _, _]) dX6_states_19 rfl (by decide) rfl ?_
    refine j_aload_n (pc' := 21) dX6_states_20 rfl rfl ?_
    refine j_getR (pc' := 24) f_X6_7 (by assumption) (by assumption) dX6_states_21 rfl ?_
    refine j_iconst (pc' := 25) (v := nI 2) dX6_states_24 rfl rfl ?_
    refine j_iload_n (pc' := 26) dX6_states_25 rfl rfl ?_
    refine j_iast (pc' := 27) (by assumption) rfl (by omega) (by omega) dX6_states_26 rfl ?_
    first | refine j_eqI mW_1 ?_ | refine j_eqI mW_2 ?_ | refine j_eqI mW_3 ?_ | refine j_eqI mW_4 ?_ | refine j_eqI mW_5 ?_ | refine j_eqI mW_6 ?_
    refine j_iload_n (pc' := 28) dX6_states_27 rfl rfl ?_
    refine j_reti dX6_states_28 rfl (by first | rfl | exact bi_n _) ?_
    first | exact Or.inr ⟨of_decide_eq_false (by assumption), rfl, rfl⟩ | (have hz := of_decide_eq_true (by assumption); exact Or.inl ⟨hz.1, hz.2, rfl, rfl⟩)
  ·
    refine j_sipush (pc' := 12) (v := -20001) dX6_states_9 rfl rfl ?_
    refine j_reti dX6_states_12 rfl (by first | rfl | exact bi_n _) ?_
    first | exact Or.inr ⟨of_decide_eq_false (by assumption), rfl, rfl⟩ | (have hz := of_decide_eq_true (by assumption); exact Or.inl ⟨hz.1, hz.2, rfl, rfl⟩)

set_option maxRecDepth 100000 in
set_option maxHeartbeats 4000000 in
theorem c_X6_stands {E : jx_E} {l : Launch} {n : Nat} {kd : jx_K} {R : jx_R} {I0 : jx_I} {m : Nat} {F v a p o t c : Nat → Int32} {i : Nat} (hs : sMd kd R m) (hi : i < 16) : jx_Ci E l yX6_stands cX6_stands 2 (some .boolean) 1 n kd R (mI I0 m F v a p o t c) [.ref m, .int (nI i)] (fun r I' => r = bi (decide (v (176 + 56 * i + 9) = nI 1) || decide (v (176 + 56 * i + 10) = 0)) ∧ I' = mI I0 m F v a p o t c) := by
  obtain ⟨K0, K1, K2, K3, K4, K5, K6, R0, R1, R2, R4, R6, R10⟩ := id hs
  refine jx_C0.ofJ RX6 [some (.ref m), some (.int (nI i))] (by decide) rfl rfl (Nat.le_of_ble_eq_true rfl) rfl ?_
  refine j_aload_n (pc' := 1) dX6_stands_0 rfl rfl ?_
  refine j_iload_n (pc' := 2) dX6_stands_1 rfl rfl ?_
  refine j_bipush (pc' := 4) (v := nI 9) dX6_stands_2 rfl rfl ?_
  refine j_cVi (pc' := 7) m_X6_59 (c_X6_of hs (by omega) (by omega)) (by assumption) (by decide) rfl rfl rfl ⟨Nat.le_of_ble_eq_true rfl, Nat.le_of_ble_eq_true rfl⟩ ⟨Nat.zero_le _, Nat.zero_le _⟩ (Nat.le_of_ble_eq_true rfl) dX6_stands_4 rfl (fun x1 I1 hq => ?_)
  obtain ⟨rfl, rfl⟩ := hq
  refine j_iconst (pc' := 8) (v := nI 1) dX6_stands_7 rfl rfl ?_
  first | refine j_icmp_eqN (tgt := 21) (pc' := 11) (by omega) (by omega) dX6_stands_8 rfl (by decide) (fun c8 => ?_) (fun c8 => ?_) | refine j_icmp_eq (tgt := 21) (pc' := 11) dX6_stands_8 rfl (by decide) (fun c8 => ?_) (fun c8 => ?_)
  ·
    refine j_iconst (pc' := 22) (v := nI 1) dX6_stands_21 rfl rfl ?_
    refine j_goto (tgt := 26) dX6_stands_22 (by decide) ?_
    refine j_reti dX6_stands_26 rfl (by first | rfl | exact bi_n _) ?_
    refine ⟨?_, rfl⟩
    first | (refine bi_T ?_; simp only [c8, decide_true, decide_false, Bool.or_true, Bool.true_or, Bool.or_false]; done) | (refine bi_F ?_; simp only [c8, decide_true, decide_false, Bool.or_false]; done)
  ·
    refine j_aload_n (pc' := 12) dX6_stands_11 rfl rfl ?_
    refine j_iload_n (pc' := 13) dX6_stands_12 rfl rfl ?_
    refine j_bipush (pc' := 15) (v := nI 10) dX6_stands_13 rfl rfl ?_
    refine j_cVi (pc' := 18) m_X6_59 (c_X6_of hs (by omega) (by omega)) (by assumption) (by decide) rfl rfl rfl ⟨Nat.le_of_ble_eq_true rfl, Nat.le_of_ble_eq_true rfl⟩ ⟨Nat.zero_le _, Nat.zero_le _⟩ (Nat.le_of_ble_eq_true rfl) dX6_stands_15 rfl (fun x1 I1 hq => ?_)
    obtain ⟨rfl, rfl⟩ := hq
    first | refine j_if_neB (tgt := 25) (pc' := 21) dX6_stands_18 rfl (by decide) (fun c18 => ?_) (fun c18 => ?_) | refine j_if_neN (tgt := 25) (pc' := 21) (by omega) dX6_stands_18 rfl (by decide) (fun c18 => ?_) (fun c18 => ?_) | refine j_if_ne (tgt := 25) (pc' := 21) dX6_stands_18 rfl (by decide) (fun c18 => ?_) (fun c18 => ?_)
    ·
      refine j_iconst (pc' := 26) (v := nI 0) dX6_stands_25 rfl rfl ?_
      refine j_reti dX6_stands_26 rfl (by first | rfl | exact bi_n _) ?_
      refine ⟨?_, rfl⟩
      first | (refine bi_T ?_; simp only [c8, c18, decide_true, decide_false, Bool.or_true, Bool.true_or, Bool.or_false]; done) | (refine bi_F ?_; simp only [c8, c18, decide_true, decide_false, Bool.or_false]; done)
    ·
      refine j_iconst (pc' := 22) (v := nI 1) dX6_stands_21 rfl rfl ?_
      refine j_goto (tgt := 26) dX6_stands_22 (by decide) ?_
      refine j_reti dX6_stands_26 rfl (by first | rfl | exact bi_n _) ?_
      refine ⟨?_, rfl⟩
      first | (refine bi_T ?_; simp only [c8, c18, decide_true, decide_false, Bool.or_true, Bool.true_or, Bool.or_false]; done) | (refine bi_F ?_; simp only [c8, c18, decide_true, decide_false, Bool.or_false]; done)

def sOv (kind limit x : Int32) : Bool := if kind = 0 then decide (limit ≤ x) else decide (x ≤ limit)
def sCl (kind limit dead x : Int32) : Bool := if dead = 0 then !sOv kind limit x else if kind = 0 then decide (x < limit - dead) else decide (limit + dead < x)

set_option maxRecDepth 100000 in
set_option maxHeartbeats 4000000 in
theorem c_X6_isOver (E : jx_E) (l : Launch) (n : Nat) (kd : jx_K) (R : jx_R) (I : jx_I) (a b x : Int32)  : jx_Ci E l yX6_isOver cX6_isOver 3 (some .boolean) 0 n kd R I [.int a, .int b, .int x] (fun r I' => r = bi (sOv a b x) ∧ I' = I) := by
  refine jx_C0.ofJ RX6 [some (.int a), some (.int b), some (.int x)] (by decide) rfl rfl (Nat.le_of_ble_eq_true rfl) rfl ?_
  refine j_iload_n (pc' := 1) dX6_isOver_0 rfl rfl ?_
  first | refine j_if_neB (tgt := 17) (pc' := 4) dX6_isOver_1 rfl (by decide) (fun c1 => ?_) (fun c1 => ?_) | refine j_if_neN (tgt := 17) (pc' := 4) (by omega) dX6_isOver_1 rfl (by decide) (fun c1 => ?_) (fun c1 => ?_) | refine j_if_ne (tgt := 17) (pc' := 4) dX6_isOver_1 rfl (by decide) (fun c1 => ?_) (fun c1 => ?_)
  ·
    refine j_iload_n (pc' := 18) dX6_isOver_17 rfl rfl ?_
    refine j_iload_n (pc' := 19) dX6_isOver_18 rfl rfl ?_
    first | refine j_icmp_gtN (tgt := 26) (pc' := 22) (by omega) (by omega) dX6_isOver_19 rfl (by decide) (fun c19 => ?_) (fun c19 => ?_) | refine j_icmp_gt (tgt := 26) (pc' := 22) dX6_isOver_19 rfl (by decide) (fun c19 => ?_) (fun c19 => ?_)
    ·
      refine j_iconst (pc' := 27) (v := nI 0) dX6_isOver_26 rfl rfl ?_
      refine j_reti dX6_isOver_27 rfl (by first | rfl | exact bi_n _) ?_
      refine ⟨?_, rfl⟩
      first | (refine bi_T ?_; simp_all [sOv, sCl]; done) | (refine bi_F ?_; simp_all [sOv, sCl]; done) | (unfold sCl; simp_all [bi]; done)
    ·
      refine j_iconst (pc' := 23) (v := nI 1) dX6_isOver_22 rfl rfl ?_
      refine j_goto (tgt := 27) dX6_isOver_23 (by decide) ?_
      refine j_reti dX6_isOver_27 rfl (by first | rfl | exact bi_n _) ?_
      refine ⟨?_, rfl⟩
      first | (refine bi_T ?_; simp_all [sOv, sCl]; done) | (refine bi_F ?_; simp_all [sOv, sCl]; done) | (unfold sCl; simp_all [bi]; done)
  ·
    refine j_iload_n (pc' := 5) dX6_isOver_4 rfl rfl ?_
    refine j_iload_n (pc' := 6) dX6_isOver_5 rfl rfl ?_
    first | refine j_icmp_ltN (tgt := 13) (pc' := 9) (by omega) (by omega) dX6_isOver_6 rfl (by decide) (fun c6 => ?_) (fun c6 => ?_) | refine j_icmp_lt (tgt := 13) (pc' := 9) dX6_isOver_6 rfl (by decide) (fun c6 => ?_) (fun c6 => ?_)
    ·
      refine j_iconst (pc' := 14) (v := nI 0) dX6_isOver_13 rfl rfl ?_
      refine j_goto (tgt := 27) dX6_isOver_14 (by decide) ?_
      refine j_reti dX6_isOver_27 rfl (by first | rfl | exact bi_n _) ?_
      refine ⟨?_, rfl⟩
      first | (refine bi_T ?_; simp_all [sOv, sCl]; done) | (refine bi_F ?_; simp_all [sOv, sCl]; done) | (unfold sCl; simp_all [bi]; done)
    ·
      refine j_iconst (pc' := 10) (v := nI 1) dX6_isOver_9 rfl rfl ?_
      refine j_goto (tgt := 27) dX6_isOver_10 (by decide) ?_
      refine j_reti dX6_isOver_27 rfl (by first | rfl | exact bi_n _) ?_
      refine ⟨?_, rfl⟩
      first | (refine bi_T ?_; simp_all [sOv, sCl]; done) | (refine bi_F ?_; simp_all [sOv, sCl]; done) | (unfold sCl; simp_all [bi]; done)

set_option maxRecDepth 100000 in
set_option maxHeartbeats 4000000 in
theorem c_X6_isClear (E : jx_E) (l : Launch) (n : Nat) (kd : jx_K) (R : jx_R) (I : jx_I) (a b c x : Int32)  : jx_Ci E l yX6_isClear cX6_isClear 4 (some .boolean) 1 n kd R I [.int a, .int b, .int c, .int x] (fun r I' => r = bi (sCl a b c x) ∧ I' = I) := by
  refine jx_C0.ofJ RX6 [some (.int a), some (.int b), some (.int c), some (.int x)] (by decide) rfl rfl (Nat.le_of_ble_eq_true rfl) rfl ?_
  refine j_iload_n (pc' := 1) dX6_isClear_0 rfl rfl ?_
  first | refine j_if_neB (tgt := 21) (pc' := 4) dX6_isClear_1 rfl (by decide) (fun c1 => ?_) (fun c1 => ?_) | refine j_if_neN (tgt := 21) (pc' := 4) (by omega) dX6_isClear_1 rfl (by decide) (fun c1 => ?_) (fun c1 => ?_) | refine j_if_ne (tgt := 21) (pc' := 4) dX6_isClear_1 rfl (by decide) (fun c1 => ?_) (fun c1 => ?_)
  ·
    refine j_iload_n (pc' := 22) dX6_isClear_21 rfl rfl ?_
    first | refine j_if_neB (tgt := 40) (pc' := 25) dX6_isClear_22 rfl (by decide) (fun c22 => ?_) (fun c22 => ?_) | refine j_if_neN (tgt := 40) (pc' := 25) (by omega) dX6_isClear_22 rfl (by decide) (fun c22 => ?_) (fun c22 => ?_) | refine j_if_ne (tgt := 40) (pc' := 25) dX6_isClear_22 rfl (by decide) (fun c22 => ?_) (fun c22 => ?_)
    ·
      refine j_iload_n (pc' := 41) dX6_isClear_40 rfl rfl ?_
      refine j_iload_n (pc' := 42) dX6_isClear_41 rfl rfl ?_
      refine j_iload_n (pc' := 43) dX6_isClear_42 rfl rfl ?_
      first | refine j_iaddN (pc' := 44) dX6_isClear_43 rfl ?_ | refine j_iadd (pc' := 44) dX6_isClear_43 rfl ?_
      first | refine j_icmp_leN (tgt := 51) (pc' := 47) (by omega) (by omega) dX6_isClear_44 rfl (by decide) (fun c44 => ?_) (fun c44 => ?_) | refine j_icmp_le (tgt := 51) (pc' := 47) dX6_isClear_44 rfl (by decide) (fun c44 => ?_) (fun c44 => ?_)
      ·
        refine j_iconst (pc' := 52) (v := nI 0) dX6_isClear_51 rfl rfl ?_
        refine j_reti dX6_isClear_52 rfl (by first | rfl | exact bi_n _) ?_
        refine ⟨?_, rfl⟩
        first | (refine bi_T ?_; simp_all [sOv, sCl]; done) | (refine bi_F ?_; simp_all [sOv, sCl]; done) | (unfold sCl; simp_all [bi]; done)
      ·
        refine j_iconst (pc' := 48) (v := nI 1) dX6_isClear_47 rfl rfl ?_
        refine j_goto (tgt := 52) dX6_isClear_48 (by decide) ?_
        refine j_reti dX6_isClear_52 rfl (by first | rfl | exact bi_n _) ?_
        refine ⟨?_, rfl⟩
        first | (refine bi_T ?_; simp_all [sOv, sCl]; done) | (refine bi_F ?_; simp_all [sOv, sCl]; done) | (unfold sCl; simp_all [bi]; done)
    ·
      refine j_iload_n (pc' := 26) dX6_isClear_25 rfl rfl ?_
      refine j_iload_n (pc' := 27) dX6_isClear_26 rfl rfl ?_
      refine j_iload_n (pc' := 28) dX6_isClear_27 rfl rfl ?_
      first | refine j_isubN (pc' := 29) (by omega) dX6_isClear_28 rfl ?_ | refine j_isub (pc' := 29) dX6_isClear_28 rfl ?_
      first | refine j_icmp_geN (tgt := 36) (pc' := 32) (by omega) (by omega) dX6_isClear_29 rfl (by decide) (fun c29 => ?_) (fun c29 => ?_) | refine j_icmp_ge (tgt := 36) (pc' := 32) dX6_isClear_29 rfl (by decide) (fun c29 => ?_) (fun c29 => ?_)
      ·
        refine j_iconst (pc' := 37) (v := nI 0) dX6_isClear_36 rfl rfl ?_
        refine j_goto (tgt := 52) dX6_isClear_37 (by decide) ?_
        refine j_reti dX6_isClear_52 rfl (by first | rfl | exact bi_n _) ?_
        refine ⟨?_, rfl⟩
        first | (refine bi_T ?_; simp_all [sOv, sCl]; done) | (refine bi_F ?_; simp_all [sOv, sCl]; done) | (unfold sCl; simp_all [bi]; done)
      ·
        refine j_iconst (pc' := 33) (v := nI 1) dX6_isClear_32 rfl rfl ?_
        refine j_goto (tgt := 52) dX6_isClear_33 (by decide) ?_
        refine j_reti dX6_isClear_52 rfl (by first | rfl | exact bi_n _) ?_
        refine ⟨?_, rfl⟩
        first | (refine bi_T ?_; simp_all [sOv, sCl]; done) | (refine bi_F ?_; simp_all [sOv, sCl]; done) | (unfold sCl; simp_all [bi]; done)
  ·
    refine j_iload_n (pc' := 5) dX6_isClear_4 rfl rfl ?_
    refine j_iload_n (pc' := 6) dX6_isClear_5 rfl rfl ?_
    refine j_iload_n (pc' := 7) dX6_isClear_6 rfl rfl ?_
    refine j_cSi (pc' := 10) m_X6_93 (c_X6_isOver E l n kd R _ _ _ _) rfl rfl ⟨Nat.le_of_ble_eq_true rfl, Nat.le_of_ble_eq_true rfl⟩ ⟨Nat.zero_le _, Nat.zero_le _⟩ (Nat.le_of_ble_eq_true rfl) dX6_isClear_7 rfl (fun x1 I1 hq => ?_)
    obtain ⟨rfl, rfl⟩ := hq
    first | refine j_if_neB (tgt := 17) (pc' := 13) dX6_isClear_10 rfl (by decide) (fun c10 => ?_) (fun c10 => ?_) | refine j_if_neN (tgt := 17) (pc' := 13) (by omega) dX6_isClear_10 rfl (by decide) (fun c10 => ?_) (fun c10 => ?_) | refine j_if_ne (tgt := 17) (pc' := 13) dX6_isClear_10 rfl (by decide) (fun c10 => ?_) (fun c10 => ?_)
    ·
      refine j_iconst (pc' := 18) (v := nI 0) dX6_isClear_17 rfl rfl ?_
      refine j_goto (tgt := 52) dX6_isClear_18 (by decide) ?_
      refine j_reti dX6_isClear_52 rfl (by first | rfl | exact bi_n _) ?_
      refine ⟨?_, rfl⟩
      first | (refine bi_T ?_; simp_all [sOv, sCl]; done) | (refine bi_F ?_; simp_all [sOv, sCl]; done) | (unfold sCl; simp_all [bi]; done)
    ·
      refine j_iconst (pc' := 14) (v := nI 1) dX6_isClear_13 rfl rfl ?_
      refine j_goto (tgt := 52) dX6_isClear_14 (by decide) ?_
      refine j_reti dX6_isClear_52 rfl (by first | rfl | exact bi_n _) ?_
      refine ⟨?_, rfl⟩
      first | (refine bi_T ?_; simp_all [sOv, sCl]; done) | (refine bi_F ?_; simp_all [sOv, sCl]; done) | (unfold sCl; simp_all [bi]; done)
end
section
theorem cp_step {I : jx_I} {x y i : Nat} (hxy : x ≠ y) : jx_up (va_up I y (fun j => if j < i then I x j else I y j)) y i (I x i) = va_up I y (fun j => if j < i + 1 then I x j else I y j) := by
  funext b
  by_cases hb : b = y
  · subst hb
    simp only [jx_up, va_up, if_true]
    funext j
    unfold upd
    by_cases h1 : j = i
    · subst h1
      simp
    · by_cases h2 : j < i
      · simp [h1, h2, Nat.lt_succ_of_lt h2]
      · simp [h1, h2]
        intro h3
        omega
  · simp [jx_up, va_up, hb]
set_option maxRecDepth 100000 in
set_option maxHeartbeats 4000000 in
theorem lp_X6_copies {E : jx_E} {l : Launch} {n : Nat} {kd : jx_K} {R : jx_R} {I : jx_I} {x y : Nat} (hx : kd x = (7, 1080)) (hy : kd y = (7, 1080)) (hxy : x ≠ y) : ∀ (k i : Nat), i ≤ 1080 → k + i = 1081 → jx_J E l cX6_copies 3 none RX6 false (jx_rm 0) 0 0 (jx_Q0 n kd R (jx_Pv (fun I' => I' = va_up I y (fun j => if j < 1080 then I x j else I y j)))) 0 0 n kd R (va_up I y (fun j => if j < i then I x j else I y j)) 2 [some (.ref x), some (.ref y), some (.int (nI i))] [] := by
  intro k
  induction k with
  | zero => intro i h1 h2; omega
  | succ k ih =>
    intro i h1 h2
    refine j_iload_n (pc' := 3) dX6_copies_2 rfl rfl ?_
    refine j_sipush (pc' := 6) (v := nI 1080) dX6_copies_3 rfl rfl ?_
    first | refine j_icmp_geN (tgt := 21) (pc' := 9) (by omega) (by omega) dX6_copies_6 rfl (by decide) (fun c6 => ?_) (fun c6 => ?_) | refine j_icmp_ge (tgt := 21) (pc' := 9) dX6_copies_6 rfl (by decide) (fun c6 => ?_) (fun c6 => ?_)
    ·
      refine j_retv dX6_copies_21 rfl ?_
      have : i = 1080 := by omega
      subst this
      rfl
    ·
      refine j_aload_n (pc' := 10) dX6_copies_9 rfl rfl ?_
      refine j_iload_n (pc' := 11) dX6_copies_10 rfl rfl ?_
      refine j_aload_n (pc' := 12) dX6_copies_11 rfl rfl ?_
      refine j_iload_n (pc' := 13) dX6_copies_12 rfl rfl ?_
      refine j_ialdv (pc' := 14) (by assumption) rfl (by omega) (by omega) (by first | (simp (disch := omega) only [jx_upS, jx_upK, jx_upA, va_up_self, va_up_ne, ne_eq, hxy, not_false_eq_true]; rfl) | rfl) dX6_copies_13 rfl ?_
      refine j_iast (pc' := 15) (by assumption) rfl (by omega) (by omega) dX6_copies_14 rfl ?_
      refine j_eqI (cp_step hxy) ?_
      first | refine j_iincN (pc' := 18) (lv' := [_, _, _]) dX6_copies_15 rfl rfl (by decide) rfl ?_ | refine j_iinc (pc' := 18) (lv' := [_, _, _]) dX6_copies_15 rfl rfl rfl (by decide) rfl ?_
      refine j_goto (tgt := 2) dX6_copies_18 (by decide) ?_
      exact ih (i + 1) (by omega) (by omega)
set_option maxRecDepth 100000 in
set_option maxHeartbeats 4000000 in
theorem c_X6_copies {E : jx_E} {l : Launch} {n : Nat} {kd : jx_K} {R : jx_R} {I : jx_I} {x y : Nat} (hx : kd x = (7, 1080)) (hy : kd y = (7, 1080)) (hxy : x ≠ y) : jx_Cv E l yX6_copies cX6_copies 3 none 0 n kd R I [.ref x, .ref y] (fun I' => I' = va_up I y (fun j => if j < 1080 then I x j else I y j)) := by
  refine jx_C0.ofJ RX6 [some (.ref x), some (.ref y), none] (by decide) rfl rfl (Nat.le_of_ble_eq_true rfl) rfl ?_
  refine j_iconst (pc' := 1) (v := nI 0) dX6_copies_0 rfl rfl ?_
  refine j_istore_n (pc' := 2) (lv' := [_, _, _]) dX6_copies_1 rfl (by decide) rfl ?_
  refine j_eqI (I' := va_up I y (fun j => if j < 0 then I x j else I y j)) ?_ (lp_X6_copies hx hy hxy 1081 0 (by omega) (by omega))
  funext b
  by_cases hb : b = y
  · subst hb
    simp [va_up]
  · simp [va_up, hb]
end
section
theorem upd_upd {f : Nat → Int32} {k : Nat} {x y : Int32} : upd (upd f k x) k y = upd f k y := by
  funext j
  unfold upd
  by_cases h : j = k <;> simp [h]
def pS (p : Nat → Int32) (i : Nat) : Nat → Int32 := fun j => if j < i then p (j + 1080) else p j
theorem pS_ge {p : Nat → Int32} {i j : Nat} (h : i ≤ j) : pS p i j = p j := by unfold pS; rw [if_neg (by omega)]
theorem pS_step {p : Nat → Int32} {i : Nat} : upd (pS p i) i (p (i + 1080)) = pS p (i + 1) := by
  funext j
  unfold upd pS
  by_cases h : j = i
  · subst h; simp
  · by_cases h2 : j < i
    · rw [if_neg h, if_pos h2, if_pos (by omega)]
    · rw [if_neg h, if_neg h2, if_neg (by omega)]
theorem pS_0 {p : Nat → Int32} : pS p 0 = p := by funext j; simp [pS]
def pC (q : Nat → Int32) (c : Nat) (row : Nat → Int32) (i : Nat) : Nat → Int32 := fun j => if 1080 * c ≤ j ∧ j < 1080 * c + i then row (j - 1080 * c) else q j
theorem pC_step {q row : Nat → Int32} {c i : Nat} : upd (pC q c row i) (1080 * c + i) (row i) = pC q c row (i + 1) := by
  funext j
  unfold upd pC
  by_cases h : j = 1080 * c + i
  · subst h
    rw [if_pos rfl, if_pos (by omega)]
    congr 1
    omega
  · by_cases h2 : 1080 * c ≤ j ∧ j < 1080 * c + i
    · rw [if_neg h, if_pos h2, if_pos (by omega)]
    · rw [if_neg h, if_neg h2, if_neg (by omega)]
theorem pC_0 {q row : Nat → Int32} {c : Nat} : pC q c row 0 = q := by
  funext j
  unfold pC
  rw [if_neg (by omega)]
/-- the history's row behind one more state -/
def kpP (p : Nat → Int32) (c : Nat) (row : Nat → Int32) : Nat → Int32 := if c = 4 then pC (pS p 3240) 3 row 1080 else pC p c row 1080
def kpC (c : Nat) : Nat := if c = 4 then 4 else c + 1
theorem kpC_le {c : Nat} (h : c ≤ 4) : kpC c ≤ 4 := by unfold kpC; split <;> omega

set_option maxRecDepth 100000 in
set_option maxHeartbeats 4000000 in
theorem lp2_X6_keeps {E : jx_E} {l : Launch} {n : Nat} {kd : jx_K} {R : jx_R} {I0 : jx_I} {m : Nat} {F v a p o t cm : Nat → Int32} {q : Nat → Int32} (hs : sMd kd R m) {r c : Nat} {row : Nat → Int32} (hr : kd r = (7, 1080)) (hrow : ∀ F' q, mI I0 m F' v a q o t cm r = row) (hc : F 3 = nI c) (hc4 : c ≤ 3) : ∀ (k i : Nat), i ≤ 1080 → k + i = 1081 → jx_J E l cX6_keeps 3 none RX6 false (jx_rm 0) 0 0 (jx_Q0 n kd R (jx_Pv (fun I' => I' = mI I0 m (upd F 3 (nI (c + 1))) v a (pC q c row 1080) o t cm))) 0 0 n kd R (mI I0 m F v a (pC q c row i) o t cm) 51 [some (.ref m), some (.ref r), some (.int (nI i))] [] := by
  obtain ⟨K0, K1, K2, K3, K4, K5, K6, R0, R1, R2, R4, R6, R10⟩ := id hs
  intro k
  induction k with
  | zero => intro i h1 h2; omega
  | succ k ih =>
    intro i h1 h2
    refine j_iload_n (pc' := 52) dX6_keeps_51 rfl rfl ?_
    refine j_sipush (pc' := 55) (v := nI 1080) dX6_keeps_52 rfl rfl ?_
    first | refine j_icmp_geN (tgt := 82) (pc' := 58) (by omega) (by omega) dX6_keeps_55 rfl (by decide) (fun c55 => ?_) (fun c55 => ?_) | refine j_icmp_ge (tgt := 82) (pc' := 58) dX6_keeps_55 rfl (by decide) (fun c55 => ?_) (fun c55 => ?_)
    ·
      refine j_aload_n (pc' := 83) dX6_keeps_82 rfl rfl ?_
      refine j_dup (pc' := 84) dX6_keeps_83 rfl rfl ?_
      refine j_getIv (pc' := 87) f_X6_28 (by assumption) (by first | (simp (disch := omega) only [jx_upS, jx_upK, jx_upA, mI_0, mI_1, mI_2, mI_3, mI_4, mI_5, mI_6, pk_us, pk_un, hrow, hc]; rfl) | rfl) dX6_keeps_84 rfl ?_
      refine j_iconst (pc' := 88) (v := nI 1) dX6_keeps_87 rfl rfl ?_
      first | refine j_iaddN (pc' := 89) dX6_keeps_88 rfl ?_ | refine j_iadd (pc' := 89) dX6_keeps_88 rfl ?_
      refine j_putI (pc' := 92) f_X6_28 (by assumption) rfl rfl dX6_keeps_89 rfl ?_
      refine j_eqI mW_0 ?_
      refine j_retv dX6_keeps_92 rfl ?_
      have : i = 1080 := by omega
      subst this
      rfl
    ·
      refine j_aload_n (pc' := 59) dX6_keeps_58 rfl rfl ?_
      refine j_getR (pc' := 62) f_X6_16 (by assumption) (by assumption) dX6_keeps_59 rfl ?_
      refine j_sipush (pc' := 65) (v := nI 1080) dX6_keeps_62 rfl rfl ?_
      refine j_aload_n (pc' := 66) dX6_keeps_65 rfl rfl ?_
      refine j_getIv (pc' := 69) f_X6_28 (by assumption) (by first | (simp (disch := omega) only [jx_upS, jx_upK, jx_upA, mI_0, mI_1, mI_2, mI_3, mI_4, mI_5, mI_6, pk_us, pk_un, hrow, hc]; rfl) | rfl) dX6_keeps_66 rfl ?_
      first | refine j_imulN (pc' := 70) dX6_keeps_69 rfl ?_ | refine j_imul (pc' := 70) dX6_keeps_69 rfl ?_
      refine j_iload_n (pc' := 71) dX6_keeps_70 rfl rfl ?_
      first | refine j_iaddN (pc' := 72) dX6_keeps_71 rfl ?_ | refine j_iadd (pc' := 72) dX6_keeps_71 rfl ?_
      refine j_aload_n (pc' := 73) dX6_keeps_72 rfl rfl ?_
      refine j_iload_n (pc' := 74) dX6_keeps_73 rfl rfl ?_
      refine j_ialdv (pc' := 75) (by assumption) rfl (by omega) (by omega) (by first | (simp (disch := omega) only [jx_upS, jx_upK, jx_upA, mI_0, mI_1, mI_2, mI_3, mI_4, mI_5, mI_6, pk_us, pk_un, hrow, hc]; rfl) | rfl) dX6_keeps_74 rfl ?_
      refine j_iast (pc' := 76) (by assumption) rfl (by omega) (by omega) dX6_keeps_75 rfl ?_
      first | refine j_eqI mW_1 ?_ | refine j_eqI mW_2 ?_ | refine j_eqI mW_3 ?_ | refine j_eqI mW_4 ?_ | refine j_eqI mW_5 ?_ | refine j_eqI mW_6 ?_
      rw [pC_step]
      first | refine j_iincN (pc' := 79) (lv' := [_, _, _]) dX6_keeps_76 rfl rfl (by decide) rfl ?_ | refine j_iinc (pc' := 79) (lv' := [_, _, _]) dX6_keeps_76 rfl rfl rfl (by decide) rfl ?_
      refine j_goto (tgt := 51) dX6_keeps_79 (by decide) ?_
      exact ih (i + 1) (by omega) (by omega)
set_option maxRecDepth 100000 in
set_option maxHeartbeats 4000000 in
theorem lp1_X6_keeps {E : jx_E} {l : Launch} {n : Nat} {kd : jx_K} {R : jx_R} {I0 : jx_I} {m : Nat} {F v a p o t cm : Nat → Int32} (hs : sMd kd R m) {r : Nat} {row : Nat → Int32} (hr : kd r = (7, 1080)) (hrow : ∀ F' q, mI I0 m F' v a q o t cm r = row) (hc : F 3 = nI 4) : ∀ (k i : Nat), i ≤ 3240 → k + i = 3241 → jx_J E l cX6_keeps 3 none RX6 false (jx_rm 0) 0 0 (jx_Q0 n kd R (jx_Pv (fun I' => I' = mI I0 m (upd F 3 (nI 4)) v a (pC (pS p 3240) 3 row 1080) o t cm))) 0 0 n kd R (mI I0 m F v a (pS p i) o t cm) 10 [some (.ref m), some (.ref r), some (.int (nI i))] [] := by
  obtain ⟨K0, K1, K2, K3, K4, K5, K6, R0, R1, R2, R4, R6, R10⟩ := id hs
  intro k
  induction k with
  | zero => intro i h1 h2; omega
  | succ k ih =>
    intro i h1 h2
    refine j_iload_n (pc' := 11) dX6_keeps_10 rfl rfl ?_
    refine j_sipush (pc' := 14) (v := nI 3240) dX6_keeps_11 rfl rfl ?_
    first | refine j_icmp_geN (tgt := 39) (pc' := 17) (by omega) (by omega) dX6_keeps_14 rfl (by decide) (fun c14 => ?_) (fun c14 => ?_) | refine j_icmp_ge (tgt := 39) (pc' := 17) dX6_keeps_14 rfl (by decide) (fun c14 => ?_) (fun c14 => ?_)
    ·
      refine j_aload_n (pc' := 40) dX6_keeps_39 rfl rfl ?_
      refine j_dup (pc' := 41) dX6_keeps_40 rfl rfl ?_
      refine j_getIv (pc' := 44) f_X6_28 (by assumption) (by first | (simp (disch := omega) only [jx_upS, jx_upK, jx_upA, mI_0, mI_1, mI_2, mI_3, mI_4, mI_5, mI_6, pk_us, pk_un, hrow, hc, pS_ge]; rfl) | rfl) dX6_keeps_41 rfl ?_
      refine j_iconst (pc' := 45) (v := nI 1) dX6_keeps_44 rfl rfl ?_
      first | refine j_isubN (pc' := 46) (by omega) dX6_keeps_45 rfl ?_ | refine j_isub (pc' := 46) dX6_keeps_45 rfl ?_
      refine j_putI (pc' := 49) f_X6_28 (by assumption) rfl rfl dX6_keeps_46 rfl ?_
      refine j_eqI mW_0 ?_
      refine j_iconst (pc' := 50) (v := nI 0) dX6_keeps_49 rfl rfl ?_
      refine j_istore_n (pc' := 51) (lv' := [_, _, _]) dX6_keeps_50 rfl (by decide) rfl ?_
      have : i = 3240 := by omega
      subst this
      have h := lp2_X6_keeps (E := E) (l := l) (n := n) (p := p) (q := pS p 3240) (F := upd F 3 (nI 3)) hs hr hrow (c := 3) pk_us (by omega) 1081 0 (by omega) (by omega)
      rw [pC_0, upd_upd] at h
      exact h
    ·
      refine j_aload_n (pc' := 18) dX6_keeps_17 rfl rfl ?_
      refine j_getR (pc' := 21) f_X6_16 (by assumption) (by assumption) dX6_keeps_18 rfl ?_
      refine j_iload_n (pc' := 22) dX6_keeps_21 rfl rfl ?_
      refine j_aload_n (pc' := 23) dX6_keeps_22 rfl rfl ?_
      refine j_getR (pc' := 26) f_X6_16 (by assumption) (by assumption) dX6_keeps_23 rfl ?_
      refine j_iload_n (pc' := 27) dX6_keeps_26 rfl rfl ?_
      refine j_sipush (pc' := 30) (v := nI 1080) dX6_keeps_27 rfl rfl ?_
      first | refine j_iaddN (pc' := 31) dX6_keeps_30 rfl ?_ | refine j_iadd (pc' := 31) dX6_keeps_30 rfl ?_
      refine j_ialdv (pc' := 32) (by assumption) rfl (by omega) (by omega) (by first | (simp (disch := omega) only [jx_upS, jx_upK, jx_upA, mI_0, mI_1, mI_2, mI_3, mI_4, mI_5, mI_6, pk_us, pk_un, hrow, hc, pS_ge]; rfl) | rfl) dX6_keeps_31 rfl ?_
      refine j_iast (pc' := 33) (by assumption) rfl (by omega) (by omega) dX6_keeps_32 rfl ?_
      first | refine j_eqI mW_1 ?_ | refine j_eqI mW_2 ?_ | refine j_eqI mW_3 ?_ | refine j_eqI mW_4 ?_ | refine j_eqI mW_5 ?_ | refine j_eqI mW_6 ?_
      rw [pS_step]
      first | refine j_iincN (pc' := 36) (lv' := [_, _, _]) dX6_keeps_33 rfl rfl (by decide) rfl ?_ | refine j_iinc (pc' := 36) (lv' := [_, _, _]) dX6_keeps_33 rfl rfl rfl (by decide) rfl ?_
      refine j_goto (tgt := 10) dX6_keeps_36 (by decide) ?_
      exact ih (i + 1) (by omega) (by omega)
set_option maxRecDepth 100000 in
set_option maxHeartbeats 4000000 in
theorem c_X6_keeps {E : jx_E} {l : Launch} {n : Nat} {kd : jx_K} {R : jx_R} {I0 : jx_I} {m : Nat} {F v a p o t cm : Nat → Int32} (hs : sMd kd R m) {r c : Nat} {row : Nat → Int32} (hr : kd r = (7, 1080)) (hrow : ∀ F' q, mI I0 m F' v a q o t cm r = row) (hc : F 3 = nI c) (hc4 : c ≤ 4) : jx_Cv E l yX6_keeps cX6_keeps 3 none 0 n kd R (mI I0 m F v a p o t cm) [.ref m, .ref r] (fun I' => I' = mI I0 m (upd F 3 (nI (kpC c))) v a (kpP p c row) o t cm) := by
  obtain ⟨K0, K1, K2, K3, K4, K5, K6, R0, R1, R2, R4, R6, R10⟩ := id hs
  refine jx_C0.ofJ RX6 [some (.ref m), some (.ref r), none] (by decide) rfl rfl (Nat.le_of_ble_eq_true rfl) rfl ?_
  refine j_aload_n (pc' := 1) dX6_keeps_0 rfl rfl ?_
  refine j_getIv (pc' := 4) f_X6_28 (by assumption) (by first | (simp (disch := omega) only [jx_upS, jx_upK, jx_upA, mI_0, mI_1, mI_2, mI_3, mI_4, mI_5, mI_6, pk_us, pk_un, hrow, hc]; rfl) | rfl) dX6_keeps_1 rfl ?_
  refine j_iconst (pc' := 5) (v := nI 4) dX6_keeps_4 rfl rfl ?_
  first | refine j_icmp_neN (tgt := 49) (pc' := 8) (by omega) (by omega) dX6_keeps_5 rfl (by decide) (fun c5 => ?_) (fun c5 => ?_) | refine j_icmp_ne (tgt := 49) (pc' := 8) dX6_keeps_5 rfl (by decide) (fun c5 => ?_) (fun c5 => ?_)
  ·
    refine j_iconst (pc' := 50) (v := nI 0) dX6_keeps_49 rfl rfl ?_
    refine j_istore_n (pc' := 51) (lv' := [_, _, _]) dX6_keeps_50 rfl (by decide) rfl ?_
    have h := lp2_X6_keeps (E := E) (l := l) (n := n) (p := p) (q := p) hs hr hrow hc (by omega) 1081 0 (by omega) (by omega)
    rw [pC_0] at h
    rw [show kpC c = c + 1 from if_neg c5, show kpP p c row = pC p c row 1080 from if_neg c5]
    exact h
  ·
    refine j_iconst (pc' := 9) (v := nI 0) dX6_keeps_8 rfl rfl ?_
    refine j_istore_n (pc' := 10) (lv' := [_, _, _]) dX6_keeps_9 rfl (by decide) rfl ?_
    subst c5
    rw [show kpC 4 = 4 from rfl, show kpP p 4 row = pC (pS p 3240) 3 row 1080 from rfl]
    have h := lp1_X6_keeps (E := E) (l := l) (n := n) (p := p) hs hr hrow hc 3241 0 (by omega) (by omega)
    rw [pS_0] at h
    exact h
def isE (x : Int32) : Bool := decide (x = -20001 ∨ x = -20002)
theorem isE_t {x : Int32} (h : x = -20001 ∨ x = -20002) : isE x = true := decide_eq_true h
theorem isE_n {x : Int32} (h1 : ¬ x = -20001) (h2 : ¬ x = -20002) : ¬ isE x = true := fun z => (of_decide_eq_true z).elim h1 h2

set_option maxRecDepth 100000 in
set_option maxHeartbeats 4000000 in
theorem c_X6_acts {E : jx_E} {l : Launch} {n : Nat} {kd : jx_K} {R : jx_R} {I0 : jx_I} {m : Nat} {F v a p o t c : Nat → Int32} {q : Nat} {x : Int32} (hs : sMd kd R m) (hc : F 3 = nI q) (hc4 : q ≤ 4) : jx_Ci E l yX6_acts cX6_acts 2 (some .int) 1 n kd R (mI I0 m F v a p o t c) [.ref m, .int x] (fun r I' => r = x ∧ I' = if isE x = true then mI I0 m F v a p o t c else mI I0 m (upd F 3 (nI (kpC q))) v a (kpP p q a) o t c) := by
  obtain ⟨K0, K1, K2, K3, K4, K5, K6, R0, R1, R2, R4, R6, R10⟩ := id hs
  refine jx_C0.ofJ RX6 [some (.ref m), some (.int x)] (by decide) rfl rfl (Nat.le_of_ble_eq_true rfl) rfl ?_
  refine j_iload_n (pc' := 1) dX6_acts_0 rfl rfl ?_
  refine j_sipush (pc' := 4) (v := -20001) dX6_acts_1 rfl rfl ?_
  first | refine j_icmp_eqN (tgt := 22) (pc' := 7) (by omega) (by omega) dX6_acts_4 rfl (by decide) (fun c4 => ?_) (fun c4 => ?_) | refine j_icmp_eq (tgt := 22) (pc' := 7) dX6_acts_4 rfl (by decide) (fun c4 => ?_) (fun c4 => ?_)
  ·
    refine j_iload_n (pc' := 23) dX6_acts_22 rfl rfl ?_
    refine j_reti dX6_acts_23 rfl (by first | rfl | exact bi_n _) ?_
    refine ⟨rfl, ?_⟩
    first | (rw [if_pos (isE_t (by first | exact Or.inl (by assumption) | exact Or.inr (by assumption)))]; done) | (rw [if_neg (isE_n (by assumption) (by assumption))]; done)
  ·
    refine j_iload_n (pc' := 8) dX6_acts_7 rfl rfl ?_
    refine j_sipush (pc' := 11) (v := -20002) dX6_acts_8 rfl rfl ?_
    first | refine j_icmp_eqN (tgt := 22) (pc' := 14) (by omega) (by omega) dX6_acts_11 rfl (by decide) (fun c11 => ?_) (fun c11 => ?_) | refine j_icmp_eq (tgt := 22) (pc' := 14) dX6_acts_11 rfl (by decide) (fun c11 => ?_) (fun c11 => ?_)
    ·
      refine j_iload_n (pc' := 23) dX6_acts_22 rfl rfl ?_
      refine j_reti dX6_acts_23 rfl (by first | rfl | exact bi_n _) ?_
      refine ⟨rfl, ?_⟩
      first | (rw [if_pos (isE_t (by first | exact Or.inl (by assumption) | exact Or.inr (by assumption)))]; done) | (rw [if_neg (isE_n (by assumption) (by assumption))]; done)
    ·
      refine j_aload_n (pc' := 15) dX6_acts_14 rfl rfl ?_
      refine j_aload_n (pc' := 16) dX6_acts_15 rfl rfl ?_
      refine j_getR (pc' := 19) f_X6_13 (by assumption) (by assumption) dX6_acts_16 rfl ?_
      refine j_cVv (pc' := 22) m_X6_40 (c_X6_keeps (row := a) hs K2 (fun _ _ => mI_2) hc hc4) (by assumption) (by decide) rfl rfl rfl ⟨Nat.le_of_ble_eq_true rfl, Nat.le_of_ble_eq_true rfl⟩ ⟨Nat.zero_le _, Nat.zero_le _⟩ (Nat.le_of_ble_eq_true rfl) dX6_acts_19 rfl (fun I1 hq => ?_)
      subst hq
      refine j_iload_n (pc' := 23) dX6_acts_22 rfl rfl ?_
      refine j_reti dX6_acts_23 rfl (by first | rfl | exact bi_n _) ?_
      refine ⟨rfl, ?_⟩
      first | (rw [if_pos (isE_t (by first | exact Or.inl (by assumption) | exact Or.inr (by assumption)))]; done) | (rw [if_neg (isE_n (by assumption) (by assumption))]; done)
end
section
/-- the roots above x: is one in alarm (fuel first) -/
def anyUp (v : Nat → Int32) : Nat → Int32 → Bool → Bool
  | 0, _, b => b
  | f + 1, x, b => if x < 0 then b else anyUp v f (v (176 + 56 * x.toNatClampNeg + 8)) (b || decide (v (176 + 56 * x.toNatClampNeg + 9) = nI 1))
theorem anyUp_n (v : Nat → Int32) (f : Nat) (x : Int32) (b : Bool) (h : x < 0) : anyUp v f x b = b := by cases f <;> simp [anyUp, h]
/-- the roots have an order -/
def RK (v : Nat → Int32) (k : Nat) (rk : Nat → Nat) : Prop := ∀ i, i < k → rk i < 16 ∧ (v (176 + 56 * i + 8) = -1 ∨ ∃ j, j < k ∧ v (176 + 56 * i + 8) = nI j ∧ rk j < rk i)
def rkUp (k : Nat) (rk : Nat → Nat) (f : Nat) (x : Int32) : Prop := x = -1 ∨ ∃ j, j < k ∧ x = nI j ∧ rk j < f
theorem m1_neg : (-1 : Int32) < 0 := by decide
set_option maxRecDepth 100000 in
set_option maxHeartbeats 4000000 in
theorem lp_X6_hasRoot {E : jx_E} {l : Launch} {n : Nat} {kd : jx_K} {R : jx_R} {I0 : jx_I} {m : Nat} {F v a p o t c : Nat → Int32} {i k : Nat} {rk : Nat → Nat} (hs : sMd kd R m) (h16 : k ≤ 16) (hrk : RK v k rk) : ∀ (f : Nat) (x z : Int32) (b : Bool), z = bi b → rkUp k rk f x → jx_J E l cX6_hasRoot 4 (some .boolean) RX6 false (jx_rm 1) 0 0 (jx_Q0 n kd R (jx_Pi (fun r I' => r = bi (anyUp v f x b) ∧ I' = mI I0 m F v a p o t c))) 0 0 n kd R (mI I0 m F v a p o t c) 10 [some (.ref m), some (.int (nI i)), some (.int z), some (.int x)] [] := by
  obtain ⟨K0, K1, K2, K3, K4, K5, K6, R0, R1, R2, R4, R6, R10⟩ := id hs
  intro f
  induction f with
  | zero =>
    intro x z b hz hx
    subst hz
    obtain rfl : x = -1 := hx.elim id (fun ⟨_, _, _, z⟩ => absurd z (Nat.not_lt_zero _))
    refine j_iload_n (pc' := 11) dX6_hasRoot_10 rfl rfl ?_
    first | refine j_if_ltN (tgt := 46) (pc' := 14) (by omega) dX6_hasRoot_11 rfl (by decide) (fun c11 => ?_) (fun c11 => ?_) | refine j_if_lt (tgt := 46) (pc' := 14) dX6_hasRoot_11 rfl (by decide) (fun c11 => ?_) (fun c11 => ?_)
    ·
      refine j_iload_n (pc' := 47) dX6_hasRoot_46 rfl rfl ?_
      refine j_reti dX6_hasRoot_47 rfl (by first | rfl | exact bi_n _) ?_
      exact ⟨by rw [anyUp_n v _ _ _ m1_neg], rfl⟩
    ·
      exact absurd m1_neg c11
  | succ f ih =>
    intro x z b hz hx
    subst hz
    rcases hx with rfl | ⟨j, hj, rfl, hjr⟩
    · skip
      refine j_iload_n (pc' := 11) dX6_hasRoot_10 rfl rfl ?_
      first | refine j_if_ltN (tgt := 46) (pc' := 14) (by omega) dX6_hasRoot_11 rfl (by decide) (fun c11 => ?_) (fun c11 => ?_) | refine j_if_lt (tgt := 46) (pc' := 14) dX6_hasRoot_11 rfl (by decide) (fun c11 => ?_) (fun c11 => ?_)
      ·
        refine j_iload_n (pc' := 47) dX6_hasRoot_46 rfl rfl ?_
        refine j_reti dX6_hasRoot_47 rfl (by first | rfl | exact bi_n _) ?_
        exact ⟨by rw [anyUp_n v _ _ _ m1_neg], rfl⟩
      ·
        exact absurd m1_neg c11
    · have hup : rkUp k rk f (v (176 + 56 * j + 8)) := by
        obtain ⟨-, h | ⟨j2, h1, h2, h3⟩⟩ := hrk j hj
        · exact Or.inl h
        · exact Or.inr ⟨j2, h1, h2, by omega⟩
      have hst : anyUp v (f + 1) (nI j) b = anyUp v f (v (176 + 56 * j + 8)) (b || decide (v (176 + 56 * j + 9) = nI 1)) := by
        rw [anyUp, if_neg (nI_pos (by omega)), nI_clamp (by omega)]
      rw [hst]
      refine j_iload_n (pc' := 11) dX6_hasRoot_10 rfl rfl ?_
      first | refine j_if_ltN (tgt := 46) (pc' := 14) (by omega) dX6_hasRoot_11 rfl (by decide) (fun c11 => ?_) (fun c11 => ?_) | refine j_if_lt (tgt := 46) (pc' := 14) dX6_hasRoot_11 rfl (by decide) (fun c11 => ?_) (fun c11 => ?_)
      ·
        exact absurd c11 (Nat.not_lt_zero _)
      ·
        refine j_iload_n (pc' := 15) dX6_hasRoot_14 rfl rfl ?_
        first | refine j_if_neB (tgt := 29) (pc' := 18) dX6_hasRoot_15 rfl (by decide) (fun c15 => ?_) (fun c15 => ?_) | refine j_if_neN (tgt := 29) (pc' := 18) (by omega) dX6_hasRoot_15 rfl (by decide) (fun c15 => ?_) (fun c15 => ?_) | refine j_if_ne (tgt := 29) (pc' := 18) dX6_hasRoot_15 rfl (by decide) (fun c15 => ?_) (fun c15 => ?_)
        ·
          refine j_iconst (pc' := 30) (v := nI 1) dX6_hasRoot_29 rfl rfl ?_
          refine j_goto (tgt := 34) dX6_hasRoot_30 (by decide) ?_
          refine j_istore_n (pc' := 35) (lv' := [_, _, _, _]) dX6_hasRoot_34 rfl (by decide) rfl ?_
          refine j_aload_n (pc' := 36) dX6_hasRoot_35 rfl rfl ?_
          refine j_iload_n (pc' := 37) dX6_hasRoot_36 rfl rfl ?_
          refine j_bipush (pc' := 39) (v := nI 8) dX6_hasRoot_37 rfl rfl ?_
          refine j_cVi (pc' := 42) m_X6_59 (c_X6_of hs (by omega) (by omega)) (by assumption) (by decide) rfl rfl rfl ⟨Nat.le_of_ble_eq_true rfl, Nat.le_of_ble_eq_true rfl⟩ ⟨Nat.zero_le _, Nat.zero_le _⟩ (Nat.le_of_ble_eq_true rfl) dX6_hasRoot_39 rfl (fun x1 I1 hq => ?_)
          obtain ⟨rfl, rfl⟩ := hq
          refine j_istore_n (pc' := 43) (lv' := [_, _, _, _]) dX6_hasRoot_42 rfl (by decide) rfl ?_
          refine j_goto (tgt := 10) dX6_hasRoot_43 (by decide) ?_
          exact ih _ _ _ (by first | (refine bi_T ?_; simp [c15]; done) | (refine bi_F ?_; simp [c15]; done)) hup
        ·
          refine j_aload_n (pc' := 19) dX6_hasRoot_18 rfl rfl ?_
          refine j_iload_n (pc' := 20) dX6_hasRoot_19 rfl rfl ?_
          refine j_bipush (pc' := 22) (v := nI 9) dX6_hasRoot_20 rfl rfl ?_
          refine j_cVi (pc' := 25) m_X6_59 (c_X6_of hs (by omega) (by omega)) (by assumption) (by decide) rfl rfl rfl ⟨Nat.le_of_ble_eq_true rfl, Nat.le_of_ble_eq_true rfl⟩ ⟨Nat.zero_le _, Nat.zero_le _⟩ (Nat.le_of_ble_eq_true rfl) dX6_hasRoot_22 rfl (fun x1 I1 hq => ?_)
          obtain ⟨rfl, rfl⟩ := hq
          refine j_iconst (pc' := 26) (v := nI 1) dX6_hasRoot_25 rfl rfl ?_
          first | refine j_icmp_neN (tgt := 33) (pc' := 29) (by omega) (by omega) dX6_hasRoot_26 rfl (by decide) (fun c26 => ?_) (fun c26 => ?_) | refine j_icmp_ne (tgt := 33) (pc' := 29) dX6_hasRoot_26 rfl (by decide) (fun c26 => ?_) (fun c26 => ?_)
          ·
            refine j_iconst (pc' := 34) (v := nI 0) dX6_hasRoot_33 rfl rfl ?_
            refine j_istore_n (pc' := 35) (lv' := [_, _, _, _]) dX6_hasRoot_34 rfl (by decide) rfl ?_
            refine j_aload_n (pc' := 36) dX6_hasRoot_35 rfl rfl ?_
            refine j_iload_n (pc' := 37) dX6_hasRoot_36 rfl rfl ?_
            refine j_bipush (pc' := 39) (v := nI 8) dX6_hasRoot_37 rfl rfl ?_
            refine j_cVi (pc' := 42) m_X6_59 (c_X6_of hs (by omega) (by omega)) (by assumption) (by decide) rfl rfl rfl ⟨Nat.le_of_ble_eq_true rfl, Nat.le_of_ble_eq_true rfl⟩ ⟨Nat.zero_le _, Nat.zero_le _⟩ (Nat.le_of_ble_eq_true rfl) dX6_hasRoot_39 rfl (fun x1 I1 hq => ?_)
            obtain ⟨rfl, rfl⟩ := hq
            refine j_istore_n (pc' := 43) (lv' := [_, _, _, _]) dX6_hasRoot_42 rfl (by decide) rfl ?_
            refine j_goto (tgt := 10) dX6_hasRoot_43 (by decide) ?_
            exact ih _ _ _ (by first | (refine bi_T ?_; simp [c15, c26]; done) | (refine bi_F ?_; simp [c15, c26]; done)) hup
          ·
            refine j_iconst (pc' := 30) (v := nI 1) dX6_hasRoot_29 rfl rfl ?_
            refine j_goto (tgt := 34) dX6_hasRoot_30 (by decide) ?_
            refine j_istore_n (pc' := 35) (lv' := [_, _, _, _]) dX6_hasRoot_34 rfl (by decide) rfl ?_
            refine j_aload_n (pc' := 36) dX6_hasRoot_35 rfl rfl ?_
            refine j_iload_n (pc' := 37) dX6_hasRoot_36 rfl rfl ?_
            refine j_bipush (pc' := 39) (v := nI 8) dX6_hasRoot_37 rfl rfl ?_
            refine j_cVi (pc' := 42) m_X6_59 (c_X6_of hs (by omega) (by omega)) (by assumption) (by decide) rfl rfl rfl ⟨Nat.le_of_ble_eq_true rfl, Nat.le_of_ble_eq_true rfl⟩ ⟨Nat.zero_le _, Nat.zero_le _⟩ (Nat.le_of_ble_eq_true rfl) dX6_hasRoot_39 rfl (fun x1 I1 hq => ?_)
            obtain ⟨rfl, rfl⟩ := hq
            refine j_istore_n (pc' := 43) (lv' := [_, _, _, _]) dX6_hasRoot_42 rfl (by decide) rfl ?_
            refine j_goto (tgt := 10) dX6_hasRoot_43 (by decide) ?_
            exact ih _ _ _ (by first | (refine bi_T ?_; simp [c15, c26]; done) | (refine bi_F ?_; simp [c15, c26]; done)) hup
set_option maxRecDepth 100000 in
set_option maxHeartbeats 4000000 in
theorem c_X6_hasRoot {E : jx_E} {l : Launch} {n : Nat} {kd : jx_K} {R : jx_R} {I0 : jx_I} {m : Nat} {F v a p o t c : Nat → Int32} {i k : Nat} {rk : Nat → Nat} (hs : sMd kd R m) (h16 : k ≤ 16) (hrk : RK v k rk) (hi : i < k) : jx_Ci E l yX6_hasRoot cX6_hasRoot 4 (some .boolean) 1 n kd R (mI I0 m F v a p o t c) [.ref m, .int (nI i)] (fun r I' => r = bi (anyUp v 16 (v (176 + 56 * i + 8)) false) ∧ I' = mI I0 m F v a p o t c) := by
  obtain ⟨K0, K1, K2, K3, K4, K5, K6, R0, R1, R2, R4, R6, R10⟩ := id hs
  have hup : rkUp k rk 16 (v (176 + 56 * i + 8)) := by
    obtain ⟨h0, h | ⟨j2, h1, h2, h3⟩⟩ := hrk i hi
    · exact Or.inl h
    · exact Or.inr ⟨j2, h1, h2, by omega⟩
  refine jx_C0.ofJ RX6 [some (.ref m), some (.int (nI i)), none, none] (by decide) rfl rfl (Nat.le_of_ble_eq_true rfl) rfl ?_
  refine j_iconst (pc' := 1) (v := nI 0) dX6_hasRoot_0 rfl rfl ?_
  refine j_istore_n (pc' := 2) (lv' := [_, _, _, _]) dX6_hasRoot_1 rfl (by decide) rfl ?_
  refine j_aload_n (pc' := 3) dX6_hasRoot_2 rfl rfl ?_
  refine j_iload_n (pc' := 4) dX6_hasRoot_3 rfl rfl ?_
  refine j_bipush (pc' := 6) (v := nI 8) dX6_hasRoot_4 rfl rfl ?_
  refine j_cVi (pc' := 9) m_X6_59 (c_X6_of hs (by omega) (by omega)) (by assumption) (by decide) rfl rfl rfl ⟨Nat.le_of_ble_eq_true rfl, Nat.le_of_ble_eq_true rfl⟩ ⟨Nat.zero_le _, Nat.zero_le _⟩ (Nat.le_of_ble_eq_true rfl) dX6_hasRoot_6 rfl (fun x1 I1 hq => ?_)
  obtain ⟨rfl, rfl⟩ := hq
  refine j_istore_n (pc' := 10) (lv' := [_, _, _, _]) dX6_hasRoot_9 rfl (by decide) rfl ?_
  exact lp_X6_hasRoot hs h16 hrk 16 _ _ false rfl hup
def sStand (v : Nat → Int32) (i : Nat) : Bool := decide (v (176 + 56 * i + 9) = nI 1) || decide (v (176 + 56 * i + 10) = 0)
def sWhy (v : Nat → Int32) (i : Nat) : Int32 :=
  if sStand v i = true then
    if v (176 + 56 * i + 13) ≤ 0 then
      if v (176 + 56 * i + 5) = nI 1 then nI 0
      else if (v (176 + 56 * i + 6) >>> (v 2 &&& 31)) &&& nI 1 = nI 1 then nI 2
      else if anyUp v 16 (v (176 + 56 * i + 8)) false = true then nI 3
      else if v 3 = nI 1 then
        if v (176 + 56 * i + 12) < v 4 then nI 0
        else if v (176 + 56 * i + 5) ≤ nI 2 then nI 0 else nI 4
      else nI 0
    else nI 1
  else (-20009)
set_option maxRecDepth 100000 in
set_option maxHeartbeats 4000000 in
theorem c_X6_why {E : jx_E} {l : Launch} {n : Nat} {kd : jx_K} {R : jx_R} {I0 : jx_I} {m : Nat} {F v a p o t c : Nat → Int32} {i k : Nat} {rk : Nat → Nat} (hs : sMd kd R m) (h16 : k ≤ 16) (hrk : RK v k rk) (hi : i < k) : jx_Ci E l yX6_why cX6_why 2 (some .int) 2 n kd R (mI I0 m F v a p o t c) [.ref m, .int (nI i)] (fun r I' => r = sWhy v i ∧ I' = mI I0 m F v a p o t c) := by
  obtain ⟨K0, K1, K2, K3, K4, K5, K6, R0, R1, R2, R4, R6, R10⟩ := id hs
  refine jx_C0.ofJ RX6 [some (.ref m), some (.int (nI i))] (by decide) rfl rfl (Nat.le_of_ble_eq_true rfl) rfl ?_
  refine j_aload_n (pc' := 1) dX6_why_0 rfl rfl ?_
  refine j_iload_n (pc' := 2) dX6_why_1 rfl rfl ?_
  refine j_cVi (pc' := 5) m_X6_78 (c_X6_stands hs (by omega)) (by assumption) (by decide) rfl rfl rfl ⟨Nat.le_of_ble_eq_true rfl, Nat.le_of_ble_eq_true rfl⟩ ⟨Nat.zero_le _, Nat.zero_le _⟩ (Nat.le_of_ble_eq_true rfl) dX6_why_2 rfl (fun x1 I1 hq => ?_)
  obtain ⟨rfl, rfl⟩ := hq
  first | refine j_if_neB (tgt := 12) (pc' := 8) dX6_why_5 rfl (by decide) (fun c5 => ?_) (fun c5 => ?_) | refine j_if_neN (tgt := 12) (pc' := 8) (by omega) dX6_why_5 rfl (by decide) (fun c5 => ?_) (fun c5 => ?_) | refine j_if_ne (tgt := 12) (pc' := 8) dX6_why_5 rfl (by decide) (fun c5 => ?_) (fun c5 => ?_)
  ·
    refine j_aload_n (pc' := 13) dX6_why_12 rfl rfl ?_
    refine j_iload_n (pc' := 14) dX6_why_13 rfl rfl ?_
    refine j_bipush (pc' := 16) (v := nI 13) dX6_why_14 rfl rfl ?_
    refine j_cVi (pc' := 19) m_X6_59 (c_X6_of hs (by omega) (by omega)) (by assumption) (by decide) rfl rfl rfl ⟨Nat.le_of_ble_eq_true rfl, Nat.le_of_ble_eq_true rfl⟩ ⟨Nat.zero_le _, Nat.zero_le _⟩ (Nat.le_of_ble_eq_true rfl) dX6_why_16 rfl (fun x1 I1 hq => ?_)
    obtain ⟨rfl, rfl⟩ := hq
    first | refine j_if_leN (tgt := 24) (pc' := 22) (by omega) dX6_why_19 rfl (by decide) (fun c19 => ?_) (fun c19 => ?_) | refine j_if_le (tgt := 24) (pc' := 22) dX6_why_19 rfl (by decide) (fun c19 => ?_) (fun c19 => ?_)
    ·
      refine j_aload_n (pc' := 25) dX6_why_24 rfl rfl ?_
      refine j_iload_n (pc' := 26) dX6_why_25 rfl rfl ?_
      refine j_iconst (pc' := 27) (v := nI 5) dX6_why_26 rfl rfl ?_
      refine j_cVi (pc' := 30) m_X6_59 (c_X6_of hs (by omega) (by omega)) (by assumption) (by decide) rfl rfl rfl ⟨Nat.le_of_ble_eq_true rfl, Nat.le_of_ble_eq_true rfl⟩ ⟨Nat.zero_le _, Nat.zero_le _⟩ (Nat.le_of_ble_eq_true rfl) dX6_why_27 rfl (fun x1 I1 hq => ?_)
      obtain ⟨rfl, rfl⟩ := hq
      refine j_iconst (pc' := 31) (v := nI 1) dX6_why_30 rfl rfl ?_
      first | refine j_icmp_neN (tgt := 36) (pc' := 34) (by omega) (by omega) dX6_why_31 rfl (by decide) (fun c31 => ?_) (fun c31 => ?_) | refine j_icmp_ne (tgt := 36) (pc' := 34) dX6_why_31 rfl (by decide) (fun c31 => ?_) (fun c31 => ?_)
      ·
        refine j_aload_n (pc' := 37) dX6_why_36 rfl rfl ?_
        refine j_iload_n (pc' := 38) dX6_why_37 rfl rfl ?_
        refine j_bipush (pc' := 40) (v := nI 6) dX6_why_38 rfl rfl ?_
        refine j_cVi (pc' := 43) m_X6_59 (c_X6_of hs (by omega) (by omega)) (by assumption) (by decide) rfl rfl rfl ⟨Nat.le_of_ble_eq_true rfl, Nat.le_of_ble_eq_true rfl⟩ ⟨Nat.zero_le _, Nat.zero_le _⟩ (Nat.le_of_ble_eq_true rfl) dX6_why_40 rfl (fun x1 I1 hq => ?_)
        obtain ⟨rfl, rfl⟩ := hq
        refine j_aload_n (pc' := 44) dX6_why_43 rfl rfl ?_
        refine j_getR (pc' := 47) f_X6_7 (by assumption) (by assumption) dX6_why_44 rfl ?_
        refine j_iconst (pc' := 48) (v := nI 2) dX6_why_47 rfl rfl ?_
        refine j_ialdv (pc' := 49) (by assumption) rfl (by omega) (by omega) (by first | (simp (disch := omega) only [jx_upS, jx_upK, jx_upA, mI_0, mI_1, mI_2, mI_3, mI_4, mI_5, mI_6, pk_us, pk_un]; rfl) | rfl) dX6_why_48 rfl ?_
        refine j_ishr (pc' := 50) dX6_why_49 rfl ?_
        refine j_iconst (pc' := 51) (v := nI 1) dX6_why_50 rfl rfl ?_
        refine j_iand (pc' := 52) dX6_why_51 rfl ?_
        refine j_iconst (pc' := 53) (v := nI 1) dX6_why_52 rfl rfl ?_
        first | refine j_icmp_neN (tgt := 58) (pc' := 56) (by omega) (by omega) dX6_why_53 rfl (by decide) (fun c53 => ?_) (fun c53 => ?_) | refine j_icmp_ne (tgt := 58) (pc' := 56) dX6_why_53 rfl (by decide) (fun c53 => ?_) (fun c53 => ?_)
        ·
          refine j_aload_n (pc' := 59) dX6_why_58 rfl rfl ?_
          refine j_iload_n (pc' := 60) dX6_why_59 rfl rfl ?_
          refine j_cVi (pc' := 63) m_X6_81 (c_X6_hasRoot hs h16 hrk (by omega)) (by assumption) (by decide) rfl rfl rfl ⟨Nat.le_of_ble_eq_true rfl, Nat.le_of_ble_eq_true rfl⟩ ⟨Nat.zero_le _, Nat.zero_le _⟩ (Nat.le_of_ble_eq_true rfl) dX6_why_60 rfl (fun x1 I1 hq => ?_)
          obtain ⟨rfl, rfl⟩ := hq
          first | refine j_if_eqB (tgt := 70) (pc' := 66) dX6_why_63 rfl (by decide) (fun c63 => ?_) (fun c63 => ?_) | refine j_if_eqN (tgt := 70) (pc' := 66) (by omega) dX6_why_63 rfl (by decide) (fun c63 => ?_) (fun c63 => ?_) | refine j_if_eq (tgt := 70) (pc' := 66) dX6_why_63 rfl (by decide) (fun c63 => ?_) (fun c63 => ?_)
          ·
            refine j_aload_n (pc' := 71) dX6_why_70 rfl rfl ?_
            refine j_getR (pc' := 74) f_X6_7 (by assumption) (by assumption) dX6_why_71 rfl ?_
            refine j_iconst (pc' := 75) (v := nI 3) dX6_why_74 rfl rfl ?_
            refine j_ialdv (pc' := 76) (by assumption) rfl (by omega) (by omega) (by first | (simp (disch := omega) only [jx_upS, jx_upK, jx_upA, mI_0, mI_1, mI_2, mI_3, mI_4, mI_5, mI_6, pk_us, pk_un]; rfl) | rfl) dX6_why_75 rfl ?_
            refine j_iconst (pc' := 77) (v := nI 1) dX6_why_76 rfl rfl ?_
            first | refine j_icmp_neN (tgt := 110) (pc' := 80) (by omega) (by omega) dX6_why_77 rfl (by decide) (fun c77 => ?_) (fun c77 => ?_) | refine j_icmp_ne (tgt := 110) (pc' := 80) dX6_why_77 rfl (by decide) (fun c77 => ?_) (fun c77 => ?_)
            ·
              refine j_iconst (pc' := 111) (v := nI 0) dX6_why_110 rfl rfl ?_
              refine j_reti dX6_why_111 rfl (by first | rfl | exact bi_n _) ?_
              refine ⟨?_, rfl⟩
              simp (disch := omega) only [sWhy, sStand, nI_clamp, c5, c19, c31, c53, c63, c77, reduceIte, Bool.false_eq_true, eq_self]
            ·
              refine j_aload_n (pc' := 81) dX6_why_80 rfl rfl ?_
              refine j_iload_n (pc' := 82) dX6_why_81 rfl rfl ?_
              refine j_bipush (pc' := 84) (v := nI 12) dX6_why_82 rfl rfl ?_
              refine j_cVi (pc' := 87) m_X6_59 (c_X6_of hs (by omega) (by omega)) (by assumption) (by decide) rfl rfl rfl ⟨Nat.le_of_ble_eq_true rfl, Nat.le_of_ble_eq_true rfl⟩ ⟨Nat.zero_le _, Nat.zero_le _⟩ (Nat.le_of_ble_eq_true rfl) dX6_why_84 rfl (fun x1 I1 hq => ?_)
              obtain ⟨rfl, rfl⟩ := hq
              refine j_aload_n (pc' := 88) dX6_why_87 rfl rfl ?_
              refine j_getR (pc' := 91) f_X6_7 (by assumption) (by assumption) dX6_why_88 rfl ?_
              refine j_iconst (pc' := 92) (v := nI 4) dX6_why_91 rfl rfl ?_
              refine j_ialdv (pc' := 93) (by assumption) rfl (by omega) (by omega) (by first | (simp (disch := omega) only [jx_upS, jx_upK, jx_upA, mI_0, mI_1, mI_2, mI_3, mI_4, mI_5, mI_6, pk_us, pk_un]; rfl) | rfl) dX6_why_92 rfl ?_
              first | refine j_icmp_ltN (tgt := 110) (pc' := 96) (by omega) (by omega) dX6_why_93 rfl (by decide) (fun c93 => ?_) (fun c93 => ?_) | refine j_icmp_lt (tgt := 110) (pc' := 96) dX6_why_93 rfl (by decide) (fun c93 => ?_) (fun c93 => ?_)
              ·
                refine j_iconst (pc' := 111) (v := nI 0) dX6_why_110 rfl rfl ?_
                refine j_reti dX6_why_111 rfl (by first | rfl | exact bi_n _) ?_
                refine ⟨?_, rfl⟩
                simp (disch := omega) only [sWhy, sStand, nI_clamp, c5, c19, c31, c53, c63, c77, c93, reduceIte, Bool.false_eq_true, eq_self]
              ·
                refine j_aload_n (pc' := 97) dX6_why_96 rfl rfl ?_
                refine j_iload_n (pc' := 98) dX6_why_97 rfl rfl ?_
                refine j_iconst (pc' := 99) (v := nI 5) dX6_why_98 rfl rfl ?_
                refine j_cVi (pc' := 102) m_X6_59 (c_X6_of hs (by omega) (by omega)) (by assumption) (by decide) rfl rfl rfl ⟨Nat.le_of_ble_eq_true rfl, Nat.le_of_ble_eq_true rfl⟩ ⟨Nat.zero_le _, Nat.zero_le _⟩ (Nat.le_of_ble_eq_true rfl) dX6_why_99 rfl (fun x1 I1 hq => ?_)
                obtain ⟨rfl, rfl⟩ := hq
                refine j_iconst (pc' := 103) (v := nI 2) dX6_why_102 rfl rfl ?_
                first | refine j_icmp_leN (tgt := 110) (pc' := 106) (by omega) (by omega) dX6_why_103 rfl (by decide) (fun c103 => ?_) (fun c103 => ?_) | refine j_icmp_le (tgt := 110) (pc' := 106) dX6_why_103 rfl (by decide) (fun c103 => ?_) (fun c103 => ?_)
                ·
                  refine j_iconst (pc' := 111) (v := nI 0) dX6_why_110 rfl rfl ?_
                  refine j_reti dX6_why_111 rfl (by first | rfl | exact bi_n _) ?_
                  refine ⟨?_, rfl⟩
                  simp (disch := omega) only [sWhy, sStand, nI_clamp, c5, c19, c31, c53, c63, c77, c93, c103, reduceIte, Bool.false_eq_true, eq_self]
                ·
                  refine j_iconst (pc' := 107) (v := nI 4) dX6_why_106 rfl rfl ?_
                  refine j_goto (tgt := 111) dX6_why_107 (by decide) ?_
                  refine j_reti dX6_why_111 rfl (by first | rfl | exact bi_n _) ?_
                  refine ⟨?_, rfl⟩
                  simp (disch := omega) only [sWhy, sStand, nI_clamp, c5, c19, c31, c53, c63, c77, c93, c103, reduceIte, Bool.false_eq_true, eq_self]
          ·
            refine j_iconst (pc' := 67) (v := nI 3) dX6_why_66 rfl rfl ?_
            refine j_goto (tgt := 111) dX6_why_67 (by decide) ?_
            refine j_reti dX6_why_111 rfl (by first | rfl | exact bi_n _) ?_
            refine ⟨?_, rfl⟩
            simp (disch := omega) only [sWhy, sStand, nI_clamp, c5, c19, c31, c53, c63, reduceIte, Bool.false_eq_true, eq_self]
        ·
          refine j_iconst (pc' := 57) (v := nI 2) dX6_why_56 rfl rfl ?_
          refine j_reti dX6_why_57 rfl (by first | rfl | exact bi_n _) ?_
          refine ⟨?_, rfl⟩
          simp (disch := omega) only [sWhy, sStand, nI_clamp, c5, c19, c31, c53, reduceIte, Bool.false_eq_true, eq_self]
      ·
        refine j_iconst (pc' := 35) (v := nI 0) dX6_why_34 rfl rfl ?_
        refine j_reti dX6_why_35 rfl (by first | rfl | exact bi_n _) ?_
        refine ⟨?_, rfl⟩
        simp (disch := omega) only [sWhy, sStand, nI_clamp, c5, c19, c31, reduceIte, Bool.false_eq_true, eq_self]
    ·
      refine j_iconst (pc' := 23) (v := nI 1) dX6_why_22 rfl rfl ?_
      refine j_reti dX6_why_23 rfl (by first | rfl | exact bi_n _) ?_
      refine ⟨?_, rfl⟩
      simp (disch := omega) only [sWhy, sStand, nI_clamp, c5, c19, reduceIte, Bool.false_eq_true, eq_self]
  ·
    refine j_sipush (pc' := 11) (v := -20009) dX6_why_8 rfl rfl ?_
    refine j_reti dX6_why_11 rfl (by first | rfl | exact bi_n _) ?_
    refine ⟨?_, rfl⟩
    simp (disch := omega) only [sWhy, sStand, nI_clamp, c5, reduceIte, Bool.false_eq_true, eq_self]

set_option maxRecDepth 100000 in
set_option maxHeartbeats 4000000 in
theorem c_X6_told {E : jx_E} {l : Launch} {n : Nat} {kd : jx_K} {R : jx_R} {I0 : jx_I} {m : Nat} {F v a p o t c : Nat → Int32} {i k w : Nat} {rk : Nat → Nat} (hs : sMd kd R m) (h16 : k ≤ 16) (hrk : RK v k rk) (hi : i < k) (hw : w < 16) : jx_Ci E l yX6_told cX6_told 3 (some .int) 3 n kd R (mI I0 m F v a p o t c) [.ref m, .int (nI i), .int (nI w)] (fun r I' => r = (if w < 15 then v (176 + 56 * i + w) else sWhy v i) ∧ I' = mI I0 m F v a p o t c) := by
  obtain ⟨K0, K1, K2, K3, K4, K5, K6, R0, R1, R2, R4, R6, R10⟩ := id hs
  refine jx_C0.ofJ RX6 [some (.ref m), some (.int (nI i)), some (.int (nI w))] (by decide) rfl rfl (Nat.le_of_ble_eq_true rfl) rfl ?_
  refine j_iload_n (pc' := 1) dX6_told_0 rfl rfl ?_
  refine j_bipush (pc' := 3) (v := nI 15) dX6_told_1 rfl rfl ?_
  first | refine j_icmp_geN (tgt := 15) (pc' := 6) (by omega) (by omega) dX6_told_3 rfl (by decide) (fun c3 => ?_) (fun c3 => ?_) | refine j_icmp_ge (tgt := 15) (pc' := 6) dX6_told_3 rfl (by decide) (fun c3 => ?_) (fun c3 => ?_)
  ·
    refine j_aload_n (pc' := 16) dX6_told_15 rfl rfl ?_
    refine j_iload_n (pc' := 17) dX6_told_16 rfl rfl ?_
    refine j_cVi (pc' := 20) m_X6_84 (c_X6_why hs h16 hrk (by omega)) (by assumption) (by decide) rfl rfl rfl ⟨Nat.le_of_ble_eq_true rfl, Nat.le_of_ble_eq_true rfl⟩ ⟨Nat.zero_le _, Nat.zero_le _⟩ (Nat.le_of_ble_eq_true rfl) dX6_told_17 rfl (fun x1 I1 hq => ?_)
    obtain ⟨rfl, rfl⟩ := hq
    refine j_reti dX6_told_20 rfl (by first | rfl | exact bi_n _) ?_
    first | exact ⟨(if_pos (by omega)).symm, rfl⟩ | exact ⟨(if_neg (by omega)).symm, rfl⟩
  ·
    refine j_aload_n (pc' := 7) dX6_told_6 rfl rfl ?_
    refine j_iload_n (pc' := 8) dX6_told_7 rfl rfl ?_
    refine j_iload_n (pc' := 9) dX6_told_8 rfl rfl ?_
    refine j_cVi (pc' := 12) m_X6_59 (c_X6_of hs (by omega) (by omega)) (by assumption) (by decide) rfl rfl rfl ⟨Nat.le_of_ble_eq_true rfl, Nat.le_of_ble_eq_true rfl⟩ ⟨Nat.zero_le _, Nat.zero_le _⟩ (Nat.le_of_ble_eq_true rfl) dX6_told_9 rfl (fun x1 I1 hq => ?_)
    obtain ⟨rfl, rfl⟩ := hq
    refine j_goto (tgt := 20) dX6_told_12 (by decide) ?_
    refine j_reti dX6_told_20 rfl (by first | rfl | exact bi_n _) ?_
    first | exact ⟨(if_pos (by omega)).symm, rfl⟩ | exact ⟨(if_neg (by omega)).symm, rfl⟩
end
section
/-! what a command does: its answer, and the row behind it -/
def fVal (v : Nat → Int32) (x y : Int32) : Int32 × (Nat → Int32) :=
  if okP v x = true then if okV y = true then (v (176 + 56 * x.toNatClampNeg + 7), upd v (176 + 56 * x.toNatClampNeg + 7) y) else (-20001, v) else (-20001, v)
def fMod (v : Nat → Int32) (x : Int32) : Int32 × (Nat → Int32) := if decide (nI 0 ≤ x ∧ x ≤ nI 3) = true then (v 2, upd v 2 x) else (-20001, v)
def fAck (v : Nat → Int32) (x : Int32) : Int32 × (Nat → Int32) :=
  if okP v x = true then
    if v (176 + 56 * x.toNatClampNeg + 10) = nI 1 then (-20002, v)
    else (v 1 - v (176 + 56 * x.toNatClampNeg + 12), sHap (upd (upd (upd v (176 + 56 * x.toNatClampNeg + 10) (nI 1)) 10 (v 10 + (v 1 - v (176 + 56 * x.toNatClampNeg + 12)))) 11 (v 11 + nI 1)) (nI 3) x)
  else (-20001, v)
def fShv (v : Nat → Int32) (x y : Int32) : Int32 × (Nat → Int32) :=
  if okP v x = true then
    if decide (nI 1 ≤ y ∧ y ≤ nI 1000) = true then
      if v (176 + 56 * x.toNatClampNeg + 5) = nI 1 then (-20002, v)
      else (v 1 + y, sHap (upd v (176 + 56 * x.toNatClampNeg + 13) (v 1 + y)) (nI 4) x)
    else (-20001, v)
  else (-20001, v)

set_option maxRecDepth 100000 in
set_option maxHeartbeats 4000000 in
theorem c_X6_fVal {E : jx_E} {l : Launch} {n : Nat} {kd : jx_K} {R : jx_R} {I0 : jx_I} {m : Nat} {F v a p o t c : Nat → Int32} {k : Nat} {x y : Int32} (hs : sMd kd R m) (hk : v 0 = nI k) (h16 : k ≤ 16) : jx_Ci E l yX6_values cX6_values 4 (some .int) 2 n kd R (mI I0 m F v a p o t c) [.ref m, .int x, .int y] (fun r I' => r = (fVal v x y).1 ∧ I' = mI I0 m F ((fVal v x y).2) a p o t c) := by
  obtain ⟨K0, K1, K2, K3, K4, K5, K6, R0, R1, R2, R4, R6, R10⟩ := id hs
  refine jx_C0.ofJ RX6 [some (.ref m), some (.int x), some (.int y), none] (by decide) rfl rfl (Nat.le_of_ble_eq_true rfl) rfl ?_
  refine j_aload_n (pc' := 1) dX6_values_0 rfl rfl ?_
  refine j_iload_n (pc' := 2) dX6_values_1 rfl rfl ?_
  refine j_cVi (pc' := 5) m_X6_52 (c_X6_isPoint hs) (by assumption) (by decide) rfl rfl rfl ⟨Nat.le_of_ble_eq_true rfl, Nat.le_of_ble_eq_true rfl⟩ ⟨Nat.zero_le _, Nat.zero_le _⟩ (Nat.le_of_ble_eq_true rfl) dX6_values_2 rfl (fun x1 I1 hq => ?_)
  obtain ⟨rfl, rfl⟩ := hq
  first | refine j_if_eqB (tgt := 15) (pc' := 8) dX6_values_5 rfl (by decide) (fun c5 => ?_) (fun c5 => ?_) | refine j_if_eqN (tgt := 15) (pc' := 8) (by omega) dX6_values_5 rfl (by decide) (fun c5 => ?_) (fun c5 => ?_) | refine j_if_eq (tgt := 15) (pc' := 8) dX6_values_5 rfl (by decide) (fun c5 => ?_) (fun c5 => ?_)
  ·
    refine j_sipush (pc' := 18) (v := -20001) dX6_values_15 rfl rfl ?_
    refine j_reti dX6_values_18 rfl (by first | rfl | exact bi_n _) ?_
    constructor <;> simp (disch := omega) only [fVal, nI_clamp, c5, reduceIte, Bool.false_eq_true, eq_self]
  ·
    refine j_iload_n (pc' := 9) dX6_values_8 rfl rfl ?_
    refine j_cSi (pc' := 12) m_X6_36 (c_X6_isValue E l n kd R _ _) rfl rfl ⟨Nat.le_of_ble_eq_true rfl, Nat.le_of_ble_eq_true rfl⟩ ⟨Nat.zero_le _, Nat.zero_le _⟩ (Nat.le_of_ble_eq_true rfl) dX6_values_9 rfl (fun x1 I1 hq => ?_)
    obtain ⟨rfl, rfl⟩ := hq
    first | refine j_if_neB (tgt := 19) (pc' := 15) dX6_values_12 rfl (by decide) (fun c12 => ?_) (fun c12 => ?_) | refine j_if_neN (tgt := 19) (pc' := 15) (by omega) dX6_values_12 rfl (by decide) (fun c12 => ?_) (fun c12 => ?_) | refine j_if_ne (tgt := 19) (pc' := 15) dX6_values_12 rfl (by decide) (fun c12 => ?_) (fun c12 => ?_)
    ·
      have hok := c5
      obtain ⟨i, hi, rfl⟩ := okP_nat hk h16 c5
      refine j_aload_n (pc' := 20) dX6_values_19 rfl rfl ?_
      refine j_iload_n (pc' := 21) dX6_values_20 rfl rfl ?_
      refine j_bipush (pc' := 23) (v := nI 7) dX6_values_21 rfl rfl ?_
      refine j_cVi (pc' := 26) m_X6_59 (c_X6_of hs (by omega) (by omega)) (by assumption) (by decide) rfl rfl rfl ⟨Nat.le_of_ble_eq_true rfl, Nat.le_of_ble_eq_true rfl⟩ ⟨Nat.zero_le _, Nat.zero_le _⟩ (Nat.le_of_ble_eq_true rfl) dX6_values_23 rfl (fun x1 I1 hq => ?_)
      obtain ⟨rfl, rfl⟩ := hq
      refine j_istore_n (pc' := 27) (lv' := [_, _, _, _]) dX6_values_26 rfl (by decide) rfl ?_
      refine j_aload_n (pc' := 28) dX6_values_27 rfl rfl ?_
      refine j_iload_n (pc' := 29) dX6_values_28 rfl rfl ?_
      refine j_bipush (pc' := 31) (v := nI 7) dX6_values_29 rfl rfl ?_
      refine j_iload_n (pc' := 32) dX6_values_31 rfl rfl ?_
      refine j_cVv (pc' := 35) m_X6_44 (c_X6_puts hs (by omega) (by omega)) (by assumption) (by decide) rfl rfl rfl ⟨Nat.le_of_ble_eq_true rfl, Nat.le_of_ble_eq_true rfl⟩ ⟨Nat.zero_le _, Nat.zero_le _⟩ (Nat.le_of_ble_eq_true rfl) dX6_values_32 rfl (fun I1 hq => ?_)
      subst hq
      refine j_iload_n (pc' := 36) dX6_values_35 rfl rfl ?_
      refine j_reti dX6_values_36 rfl (by first | rfl | exact bi_n _) ?_
      constructor <;> simp (disch := omega) only [fVal, nI_clamp, hok, c5, c12, reduceIte, Bool.false_eq_true, eq_self]
    ·
      refine j_sipush (pc' := 18) (v := -20001) dX6_values_15 rfl rfl ?_
      refine j_reti dX6_values_18 rfl (by first | rfl | exact bi_n _) ?_
      constructor <;> simp (disch := omega) only [fVal, nI_clamp, c5, c12, reduceIte, Bool.false_eq_true, eq_self]

set_option maxRecDepth 100000 in
set_option maxHeartbeats 4000000 in
theorem c_X6_fMod {E : jx_E} {l : Launch} {n : Nat} {kd : jx_K} {R : jx_R} {I0 : jx_I} {m : Nat} {F v a p o t c : Nat → Int32} {x : Int32} (hs : sMd kd R m)  : jx_Ci E l yX6_states cX6_states 3 (some .int) 1 n kd R (mI I0 m F v a p o t c) [.ref m, .int x] (fun r I' => r = (fMod v x).1 ∧ I' = mI I0 m F ((fMod v x).2) a p o t c) := by
  obtain ⟨K0, K1, K2, K3, K4, K5, K6, R0, R1, R2, R4, R6, R10⟩ := id hs
  refine jx_C0.ofJ RX6 [some (.ref m), some (.int x), none] (by decide) rfl rfl (Nat.le_of_ble_eq_true rfl) rfl ?_
  refine j_iload_n (pc' := 1) dX6_states_0 rfl rfl ?_
  refine j_iconst (pc' := 2) (v := nI 0) dX6_states_1 rfl rfl ?_
  refine j_iconst (pc' := 3) (v := nI 3) dX6_states_2 rfl rfl ?_
  refine j_cSi (pc' := 6) m_X6_32 (c_X6_in E l n kd R _ _ _ _) rfl rfl ⟨Nat.le_of_ble_eq_true rfl, Nat.le_of_ble_eq_true rfl⟩ ⟨Nat.zero_le _, Nat.zero_le _⟩ (Nat.le_of_ble_eq_true rfl) dX6_states_3 rfl (fun x1 I1 hq => ?_)
  obtain ⟨rfl, rfl⟩ := hq
  first | refine j_if_neB (tgt := 13) (pc' := 9) dX6_states_6 rfl (by decide) (fun c6 => ?_) (fun c6 => ?_) | refine j_if_neN (tgt := 13) (pc' := 9) (by omega) dX6_states_6 rfl (by decide) (fun c6 => ?_) (fun c6 => ?_) | refine j_if_ne (tgt := 13) (pc' := 9) dX6_states_6 rfl (by decide) (fun c6 => ?_) (fun c6 => ?_)
  ·
    refine j_aload_n (pc' := 14) dX6_states_13 rfl rfl ?_
    refine j_getR (pc' := 17) f_X6_7 (by assumption) (by assumption) dX6_states_14 rfl ?_
    refine j_iconst (pc' := 18) (v := nI 2) dX6_states_17 rfl rfl ?_
    refine j_ialdv (pc' := 19) (by assumption) rfl (by omega) (by omega) (by first | (simp (disch := omega) only [jx_upS, jx_upK, jx_upA, mI_0, mI_1, mI_2, mI_3, mI_4, mI_5, mI_6, pk_us, pk_un]; rfl) | rfl) dX6_states_18 rfl ?_
    refine j_istore_n (pc' := 20) (lv' := [_, _, _]) dX6_states_19 rfl (by decide) rfl ?_
    refine j_aload_n (pc' := 21) dX6_states_20 rfl rfl ?_
    refine j_getR (pc' := 24) f_X6_7 (by assumption) (by assumption) dX6_states_21 rfl ?_
    refine j_iconst (pc' := 25) (v := nI 2) dX6_states_24 rfl rfl ?_
    refine j_iload_n (pc' := 26) dX6_states_25 rfl rfl ?_
    refine j_iast (pc' := 27) (by assumption) rfl (by omega) (by omega) dX6_states_26 rfl ?_
    first | refine j_eqI mW_1 ?_ | refine j_eqI mW_2 ?_ | refine j_eqI mW_3 ?_ | refine j_eqI mW_4 ?_ | refine j_eqI mW_5 ?_ | refine j_eqI mW_6 ?_
    refine j_iload_n (pc' := 28) dX6_states_27 rfl rfl ?_
    refine j_reti dX6_states_28 rfl (by first | rfl | exact bi_n _) ?_
    constructor <;> simp (disch := omega) only [fMod, nI_clamp, c6, reduceIte, Bool.false_eq_true, eq_self]
  ·
    refine j_sipush (pc' := 12) (v := -20001) dX6_states_9 rfl rfl ?_
    refine j_reti dX6_states_12 rfl (by first | rfl | exact bi_n _) ?_
    constructor <;> simp (disch := omega) only [fMod, nI_clamp, c6, reduceIte, Bool.false_eq_true, eq_self]

set_option maxRecDepth 100000 in
set_option maxHeartbeats 4000000 in
theorem c_X6_fAck {E : jx_E} {l : Launch} {n : Nat} {kd : jx_K} {R : jx_R} {I0 : jx_I} {m : Nat} {F v a p o t c : Nat → Int32} {k N : Nat} {x : Int32} (hs : sMd kd R m) (hk : v 0 = nI k) (h16 : k ≤ 16) (hN : v 9 = nI N) (hNb : N < 2147483000) : jx_Ci E l yX6_acks cX6_acks 3 (some .int) 2 n kd R (mI I0 m F v a p o t c) [.ref m, .int x] (fun r I' => r = (fAck v x).1 ∧ I' = mI I0 m F ((fAck v x).2) a p o t c) := by
  obtain ⟨K0, K1, K2, K3, K4, K5, K6, R0, R1, R2, R4, R6, R10⟩ := id hs
  refine jx_C0.ofJ RX6 [some (.ref m), some (.int x), none] (by decide) rfl rfl (Nat.le_of_ble_eq_true rfl) rfl ?_
  refine j_aload_n (pc' := 1) dX6_acks_0 rfl rfl ?_
  refine j_iload_n (pc' := 2) dX6_acks_1 rfl rfl ?_
  refine j_cVi (pc' := 5) m_X6_52 (c_X6_isPoint hs) (by assumption) (by decide) rfl rfl rfl ⟨Nat.le_of_ble_eq_true rfl, Nat.le_of_ble_eq_true rfl⟩ ⟨Nat.zero_le _, Nat.zero_le _⟩ (Nat.le_of_ble_eq_true rfl) dX6_acks_2 rfl (fun x1 I1 hq => ?_)
  obtain ⟨rfl, rfl⟩ := hq
  first | refine j_if_neB (tgt := 12) (pc' := 8) dX6_acks_5 rfl (by decide) (fun c5 => ?_) (fun c5 => ?_) | refine j_if_neN (tgt := 12) (pc' := 8) (by omega) dX6_acks_5 rfl (by decide) (fun c5 => ?_) (fun c5 => ?_) | refine j_if_ne (tgt := 12) (pc' := 8) dX6_acks_5 rfl (by decide) (fun c5 => ?_) (fun c5 => ?_)
  ·
    have hok := c5
    obtain ⟨i, hi, rfl⟩ := okP_nat hk h16 c5
    refine j_aload_n (pc' := 13) dX6_acks_12 rfl rfl ?_
    refine j_iload_n (pc' := 14) dX6_acks_13 rfl rfl ?_
    refine j_bipush (pc' := 16) (v := nI 10) dX6_acks_14 rfl rfl ?_
    refine j_cVi (pc' := 19) m_X6_59 (c_X6_of hs (by omega) (by omega)) (by assumption) (by decide) rfl rfl rfl ⟨Nat.le_of_ble_eq_true rfl, Nat.le_of_ble_eq_true rfl⟩ ⟨Nat.zero_le _, Nat.zero_le _⟩ (Nat.le_of_ble_eq_true rfl) dX6_acks_16 rfl (fun x1 I1 hq => ?_)
    obtain ⟨rfl, rfl⟩ := hq
    refine j_iconst (pc' := 20) (v := nI 1) dX6_acks_19 rfl rfl ?_
    first | refine j_icmp_neN (tgt := 27) (pc' := 23) (by omega) (by omega) dX6_acks_20 rfl (by decide) (fun c20 => ?_) (fun c20 => ?_) | refine j_icmp_ne (tgt := 27) (pc' := 23) dX6_acks_20 rfl (by decide) (fun c20 => ?_) (fun c20 => ?_)
    ·
      refine j_aload_n (pc' := 28) dX6_acks_27 rfl rfl ?_
      refine j_iload_n (pc' := 29) dX6_acks_28 rfl rfl ?_
      refine j_bipush (pc' := 31) (v := nI 10) dX6_acks_29 rfl rfl ?_
      refine j_iconst (pc' := 32) (v := nI 1) dX6_acks_31 rfl rfl ?_
      refine j_cVv (pc' := 35) m_X6_44 (c_X6_puts hs (by omega) (by omega)) (by assumption) (by decide) rfl rfl rfl ⟨Nat.le_of_ble_eq_true rfl, Nat.le_of_ble_eq_true rfl⟩ ⟨Nat.zero_le _, Nat.zero_le _⟩ (Nat.le_of_ble_eq_true rfl) dX6_acks_32 rfl (fun I1 hq => ?_)
      subst hq
      refine j_aload_n (pc' := 36) dX6_acks_35 rfl rfl ?_
      refine j_getR (pc' := 39) f_X6_7 (by assumption) (by assumption) dX6_acks_36 rfl ?_
      refine j_iconst (pc' := 40) (v := nI 1) dX6_acks_39 rfl rfl ?_
      refine j_ialdv (pc' := 41) (by assumption) rfl (by omega) (by omega) (by first | (simp (disch := omega) only [jx_upS, jx_upK, jx_upA, mI_0, mI_1, mI_2, mI_3, mI_4, mI_5, mI_6, pk_us, pk_un]; rfl) | rfl) dX6_acks_40 rfl ?_
      refine j_aload_n (pc' := 42) dX6_acks_41 rfl rfl ?_
      refine j_iload_n (pc' := 43) dX6_acks_42 rfl rfl ?_
      refine j_bipush (pc' := 45) (v := nI 12) dX6_acks_43 rfl rfl ?_
      refine j_cVi (pc' := 48) m_X6_59 (c_X6_of hs (by omega) (by omega)) (by assumption) (by decide) rfl rfl rfl ⟨Nat.le_of_ble_eq_true rfl, Nat.le_of_ble_eq_true rfl⟩ ⟨Nat.zero_le _, Nat.zero_le _⟩ (Nat.le_of_ble_eq_true rfl) dX6_acks_45 rfl (fun x1 I1 hq => ?_)
      obtain ⟨rfl, rfl⟩ := hq
      first | refine j_isubN (pc' := 49) (by omega) dX6_acks_48 rfl ?_ | refine j_isub (pc' := 49) dX6_acks_48 rfl ?_
      refine j_istore_n (pc' := 50) (lv' := [_, _, _]) dX6_acks_49 rfl (by decide) rfl ?_
      refine j_aload_n (pc' := 51) dX6_acks_50 rfl rfl ?_
      refine j_getR (pc' := 54) f_X6_7 (by assumption) (by assumption) dX6_acks_51 rfl ?_
      refine j_bipush (pc' := 56) (v := nI 10) dX6_acks_54 rfl rfl ?_
      refine j_dup2 (pc' := 57) dX6_acks_56 rfl rfl rfl ?_
      refine j_ialdv (pc' := 58) (by assumption) rfl (by omega) (by omega) (by first | (simp (disch := omega) only [jx_upS, jx_upK, jx_upA, mI_0, mI_1, mI_2, mI_3, mI_4, mI_5, mI_6, pk_us, pk_un]; rfl) | rfl) dX6_acks_57 rfl ?_
      refine j_iload_n (pc' := 59) dX6_acks_58 rfl rfl ?_
      first | refine j_iaddN (pc' := 60) dX6_acks_59 rfl ?_ | refine j_iadd (pc' := 60) dX6_acks_59 rfl ?_
      refine j_iast (pc' := 61) (by assumption) rfl (by omega) (by omega) dX6_acks_60 rfl ?_
      first | refine j_eqI mW_1 ?_ | refine j_eqI mW_2 ?_ | refine j_eqI mW_3 ?_ | refine j_eqI mW_4 ?_ | refine j_eqI mW_5 ?_ | refine j_eqI mW_6 ?_
      refine j_aload_n (pc' := 62) dX6_acks_61 rfl rfl ?_
      refine j_getR (pc' := 65) f_X6_7 (by assumption) (by assumption) dX6_acks_62 rfl ?_
      refine j_bipush (pc' := 67) (v := nI 11) dX6_acks_65 rfl rfl ?_
      refine j_dup2 (pc' := 68) dX6_acks_67 rfl rfl rfl ?_
      refine j_ialdv (pc' := 69) (by assumption) rfl (by omega) (by omega) (by first | (simp (disch := omega) only [jx_upS, jx_upK, jx_upA, mI_0, mI_1, mI_2, mI_3, mI_4, mI_5, mI_6, pk_us, pk_un]; rfl) | rfl) dX6_acks_68 rfl ?_
      refine j_iconst (pc' := 70) (v := nI 1) dX6_acks_69 rfl rfl ?_
      first | refine j_iaddN (pc' := 71) dX6_acks_70 rfl ?_ | refine j_iadd (pc' := 71) dX6_acks_70 rfl ?_
      refine j_iast (pc' := 72) (by assumption) rfl (by omega) (by omega) dX6_acks_71 rfl ?_
      first | refine j_eqI mW_1 ?_ | refine j_eqI mW_2 ?_ | refine j_eqI mW_3 ?_ | refine j_eqI mW_4 ?_ | refine j_eqI mW_5 ?_ | refine j_eqI mW_6 ?_
      refine j_aload_n (pc' := 73) dX6_acks_72 rfl rfl ?_
      refine j_iconst (pc' := 74) (v := nI 3) dX6_acks_73 rfl rfl ?_
      refine j_iload_n (pc' := 75) dX6_acks_74 rfl rfl ?_
      refine j_cVv (pc' := 78) m_X6_48 (c_X6_happens hs (N := N) (by simp (disch := omega) only [pk_us, pk_un, hN]) hNb) (by assumption) (by decide) rfl rfl rfl ⟨Nat.le_of_ble_eq_true rfl, Nat.le_of_ble_eq_true rfl⟩ ⟨Nat.zero_le _, Nat.zero_le _⟩ (Nat.le_of_ble_eq_true rfl) dX6_acks_75 rfl (fun I1 hq => ?_)
      subst hq
      refine j_iload_n (pc' := 79) dX6_acks_78 rfl rfl ?_
      refine j_reti dX6_acks_79 rfl (by first | rfl | exact bi_n _) ?_
      constructor <;> simp (disch := omega) only [fAck, pk_us, pk_un, sHap_o, nI_clamp, hok, c5, c20, reduceIte, Bool.false_eq_true, eq_self]
    ·
      refine j_sipush (pc' := 26) (v := -20002) dX6_acks_23 rfl rfl ?_
      refine j_reti dX6_acks_26 rfl (by first | rfl | exact bi_n _) ?_
      constructor <;> simp (disch := omega) only [fAck, pk_us, pk_un, sHap_o, nI_clamp, hok, c5, c20, reduceIte, Bool.false_eq_true, eq_self]
  ·
    refine j_sipush (pc' := 11) (v := -20001) dX6_acks_8 rfl rfl ?_
    refine j_reti dX6_acks_11 rfl (by first | rfl | exact bi_n _) ?_
    constructor <;> simp (disch := omega) only [fAck, pk_us, pk_un, sHap_o, nI_clamp, c5, reduceIte, Bool.false_eq_true, eq_self]

set_option maxRecDepth 100000 in
set_option maxHeartbeats 4000000 in
theorem c_X6_fShv {E : jx_E} {l : Launch} {n : Nat} {kd : jx_K} {R : jx_R} {I0 : jx_I} {m : Nat} {F v a p o t c : Nat → Int32} {k N : Nat} {x y : Int32} (hs : sMd kd R m) (hk : v 0 = nI k) (h16 : k ≤ 16) (hN : v 9 = nI N) (hNb : N < 2147483000) : jx_Ci E l yX6_shelves cX6_shelves 3 (some .int) 2 n kd R (mI I0 m F v a p o t c) [.ref m, .int x, .int y] (fun r I' => r = (fShv v x y).1 ∧ I' = mI I0 m F ((fShv v x y).2) a p o t c) := by
  obtain ⟨K0, K1, K2, K3, K4, K5, K6, R0, R1, R2, R4, R6, R10⟩ := id hs
  refine jx_C0.ofJ RX6 [some (.ref m), some (.int x), some (.int y)] (by decide) rfl rfl (Nat.le_of_ble_eq_true rfl) rfl ?_
  refine j_aload_n (pc' := 1) dX6_shelves_0 rfl rfl ?_
  refine j_iload_n (pc' := 2) dX6_shelves_1 rfl rfl ?_
  refine j_cVi (pc' := 5) m_X6_52 (c_X6_isPoint hs) (by assumption) (by decide) rfl rfl rfl ⟨Nat.le_of_ble_eq_true rfl, Nat.le_of_ble_eq_true rfl⟩ ⟨Nat.zero_le _, Nat.zero_le _⟩ (Nat.le_of_ble_eq_true rfl) dX6_shelves_2 rfl (fun x1 I1 hq => ?_)
  obtain ⟨rfl, rfl⟩ := hq
  first | refine j_if_eqB (tgt := 19) (pc' := 8) dX6_shelves_5 rfl (by decide) (fun c5 => ?_) (fun c5 => ?_) | refine j_if_eqN (tgt := 19) (pc' := 8) (by omega) dX6_shelves_5 rfl (by decide) (fun c5 => ?_) (fun c5 => ?_) | refine j_if_eq (tgt := 19) (pc' := 8) dX6_shelves_5 rfl (by decide) (fun c5 => ?_) (fun c5 => ?_)
  ·
    refine j_sipush (pc' := 22) (v := -20001) dX6_shelves_19 rfl rfl ?_
    refine j_reti dX6_shelves_22 rfl (by first | rfl | exact bi_n _) ?_
    constructor <;> simp (disch := omega) only [fShv, pk_us, pk_un, sHap_o, nI_clamp, c5, reduceIte, Bool.false_eq_true, eq_self]
  ·
    refine j_iload_n (pc' := 9) dX6_shelves_8 rfl rfl ?_
    refine j_iconst (pc' := 10) (v := nI 1) dX6_shelves_9 rfl rfl ?_
    refine j_sipush (pc' := 13) (v := nI 1000) dX6_shelves_10 rfl rfl ?_
    refine j_cSi (pc' := 16) m_X6_32 (c_X6_in E l n kd R _ _ _ _) rfl rfl ⟨Nat.le_of_ble_eq_true rfl, Nat.le_of_ble_eq_true rfl⟩ ⟨Nat.zero_le _, Nat.zero_le _⟩ (Nat.le_of_ble_eq_true rfl) dX6_shelves_13 rfl (fun x1 I1 hq => ?_)
    obtain ⟨rfl, rfl⟩ := hq
    first | refine j_if_neB (tgt := 23) (pc' := 19) dX6_shelves_16 rfl (by decide) (fun c16 => ?_) (fun c16 => ?_) | refine j_if_neN (tgt := 23) (pc' := 19) (by omega) dX6_shelves_16 rfl (by decide) (fun c16 => ?_) (fun c16 => ?_) | refine j_if_ne (tgt := 23) (pc' := 19) dX6_shelves_16 rfl (by decide) (fun c16 => ?_) (fun c16 => ?_)
    ·
      have hok := c5
      obtain ⟨i, hi, rfl⟩ := okP_nat hk h16 c5
      refine j_aload_n (pc' := 24) dX6_shelves_23 rfl rfl ?_
      refine j_iload_n (pc' := 25) dX6_shelves_24 rfl rfl ?_
      refine j_iconst (pc' := 26) (v := nI 5) dX6_shelves_25 rfl rfl ?_
      refine j_cVi (pc' := 29) m_X6_59 (c_X6_of hs (by omega) (by omega)) (by assumption) (by decide) rfl rfl rfl ⟨Nat.le_of_ble_eq_true rfl, Nat.le_of_ble_eq_true rfl⟩ ⟨Nat.zero_le _, Nat.zero_le _⟩ (Nat.le_of_ble_eq_true rfl) dX6_shelves_26 rfl (fun x1 I1 hq => ?_)
      obtain ⟨rfl, rfl⟩ := hq
      refine j_iconst (pc' := 30) (v := nI 1) dX6_shelves_29 rfl rfl ?_
      first | refine j_icmp_neN (tgt := 37) (pc' := 33) (by omega) (by omega) dX6_shelves_30 rfl (by decide) (fun c30 => ?_) (fun c30 => ?_) | refine j_icmp_ne (tgt := 37) (pc' := 33) dX6_shelves_30 rfl (by decide) (fun c30 => ?_) (fun c30 => ?_)
      ·
        refine j_aload_n (pc' := 38) dX6_shelves_37 rfl rfl ?_
        refine j_iload_n (pc' := 39) dX6_shelves_38 rfl rfl ?_
        refine j_bipush (pc' := 41) (v := nI 13) dX6_shelves_39 rfl rfl ?_
        refine j_aload_n (pc' := 42) dX6_shelves_41 rfl rfl ?_
        refine j_getR (pc' := 45) f_X6_7 (by assumption) (by assumption) dX6_shelves_42 rfl ?_
        refine j_iconst (pc' := 46) (v := nI 1) dX6_shelves_45 rfl rfl ?_
        refine j_ialdv (pc' := 47) (by assumption) rfl (by omega) (by omega) (by first | (simp (disch := omega) only [jx_upS, jx_upK, jx_upA, mI_0, mI_1, mI_2, mI_3, mI_4, mI_5, mI_6, pk_us, pk_un]; rfl) | rfl) dX6_shelves_46 rfl ?_
        refine j_iload_n (pc' := 48) dX6_shelves_47 rfl rfl ?_
        first | refine j_iaddN (pc' := 49) dX6_shelves_48 rfl ?_ | refine j_iadd (pc' := 49) dX6_shelves_48 rfl ?_
        refine j_cVv (pc' := 52) m_X6_44 (c_X6_puts hs (by omega) (by omega)) (by assumption) (by decide) rfl rfl rfl ⟨Nat.le_of_ble_eq_true rfl, Nat.le_of_ble_eq_true rfl⟩ ⟨Nat.zero_le _, Nat.zero_le _⟩ (Nat.le_of_ble_eq_true rfl) dX6_shelves_49 rfl (fun I1 hq => ?_)
        subst hq
        refine j_aload_n (pc' := 53) dX6_shelves_52 rfl rfl ?_
        refine j_iconst (pc' := 54) (v := nI 4) dX6_shelves_53 rfl rfl ?_
        refine j_iload_n (pc' := 55) dX6_shelves_54 rfl rfl ?_
        refine j_cVv (pc' := 58) m_X6_48 (c_X6_happens hs (N := N) (by simp (disch := omega) only [pk_us, pk_un, hN]) hNb) (by assumption) (by decide) rfl rfl rfl ⟨Nat.le_of_ble_eq_true rfl, Nat.le_of_ble_eq_true rfl⟩ ⟨Nat.zero_le _, Nat.zero_le _⟩ (Nat.le_of_ble_eq_true rfl) dX6_shelves_55 rfl (fun I1 hq => ?_)
        subst hq
        refine j_aload_n (pc' := 59) dX6_shelves_58 rfl rfl ?_
        refine j_getR (pc' := 62) f_X6_7 (by assumption) (by assumption) dX6_shelves_59 rfl ?_
        refine j_iconst (pc' := 63) (v := nI 1) dX6_shelves_62 rfl rfl ?_
        refine j_ialdv (pc' := 64) (by assumption) rfl (by omega) (by omega) (by first | (simp (disch := omega) only [jx_upS, jx_upK, jx_upA, mI_0, mI_1, mI_2, mI_3, mI_4, mI_5, mI_6, pk_us, pk_un]; rfl) | rfl) dX6_shelves_63 rfl ?_
        refine j_iload_n (pc' := 65) dX6_shelves_64 rfl rfl ?_
        first | refine j_iaddN (pc' := 66) dX6_shelves_65 rfl ?_ | refine j_iadd (pc' := 66) dX6_shelves_65 rfl ?_
        refine j_reti dX6_shelves_66 rfl (by first | rfl | exact bi_n _) ?_
        constructor <;> simp (disch := omega) only [fShv, pk_us, pk_un, sHap_o, nI_clamp, hok, c5, c16, c30, reduceIte, Bool.false_eq_true, eq_self]
      ·
        refine j_sipush (pc' := 36) (v := -20002) dX6_shelves_33 rfl rfl ?_
        refine j_reti dX6_shelves_36 rfl (by first | rfl | exact bi_n _) ?_
        constructor <;> simp (disch := omega) only [fShv, pk_us, pk_un, sHap_o, nI_clamp, hok, c5, c16, c30, reduceIte, Bool.false_eq_true, eq_self]
    ·
      refine j_sipush (pc' := 22) (v := -20001) dX6_shelves_19 rfl rfl ?_
      refine j_reti dX6_shelves_22 rfl (by first | rfl | exact bi_n _) ?_
      constructor <;> simp (disch := omega) only [fShv, pk_us, pk_un, sHap_o, nI_clamp, c5, c16, reduceIte, Bool.false_eq_true, eq_self]

/-- the activations from t down to the window's end -/
def rsum (v : Nat → Int32) (T S : Nat) : Nat → Int32 → Int32
  | 0, acc => acc
  | t + 1, acc => if T < t + 1 + S then rsum v T S t (acc + v (16 + (t + 1) % 64)) else acc
theorem rs_le {t T S : Nat} (ht : t < 1000000) (hT : T < 1000000) (hS : S < 1000000) : nI t ≤ nI T - nI S ↔ t + S ≤ T := by
  rw [Int32.le_iff_toInt_le, pk_sub_toInt (by omega) (by omega), nI_toInt (by omega)]
  omega

set_option maxRecDepth 100000 in
set_option maxHeartbeats 4000000 in
theorem lp_X6_rate {E : jx_E} {l : Launch} {n : Nat} {kd : jx_K} {R : jx_R} {I0 : jx_I} {m : Nat} {F v a p o t0 c : Nat → Int32} {T S : Nat} (hs : sMd kd R m) (hT : v 1 = nI T) (hS : v 5 = nI S) (hT1 : T ≤ 10000) (hS1 : S ≤ 60) : ∀ (t : Nat) (acc : Int32), t ≤ T → jx_J E l cX6_rate 3 (some .int) RX6 false (jx_rm 0) 0 0 (jx_Q0 n kd R (jx_Pi (fun r I' => r = rsum v T S t acc ∧ I' = mI I0 m F v a p o t0 c))) 0 0 n kd R (mI I0 m F v a p o t0 c) 9 [some (.ref m), some (.int acc), some (.int (nI t))] [] := by
  obtain ⟨K0, K1, K2, K3, K4, K5, K6, R0, R1, R2, R4, R6, R10⟩ := id hs
  intro t
  induction t with
  | zero =>
    intro acc ht
    refine j_iload_n (pc' := 10) dX6_rate_9 rfl rfl ?_
    refine j_aload_n (pc' := 11) dX6_rate_10 rfl rfl ?_
    refine j_getR (pc' := 14) f_X6_7 (by assumption) (by assumption) dX6_rate_11 rfl ?_
    refine j_iconst (pc' := 15) (v := nI 1) dX6_rate_14 rfl rfl ?_
    refine j_ialdv (pc' := 16) (by assumption) rfl (by omega) (by omega) (by first | (simp (disch := omega) only [jx_upS, jx_upK, jx_upA, mI_0, mI_1, mI_2, mI_3, mI_4, mI_5, mI_6, pk_us, pk_un, hT, hS]; rfl) | rfl) dX6_rate_15 rfl ?_
    refine j_aload_n (pc' := 17) dX6_rate_16 rfl rfl ?_
    refine j_getR (pc' := 20) f_X6_7 (by assumption) (by assumption) dX6_rate_17 rfl ?_
    refine j_iconst (pc' := 21) (v := nI 5) dX6_rate_20 rfl rfl ?_
    refine j_ialdv (pc' := 22) (by assumption) rfl (by omega) (by omega) (by first | (simp (disch := omega) only [jx_upS, jx_upK, jx_upA, mI_0, mI_1, mI_2, mI_3, mI_4, mI_5, mI_6, pk_us, pk_un, hT, hS]; rfl) | rfl) dX6_rate_21 rfl ?_
    first | refine j_isubN (pc' := 23) (by omega) dX6_rate_22 rfl ?_ | refine j_isub (pc' := 23) dX6_rate_22 rfl ?_
    first | refine j_icmp_leN (tgt := 51) (pc' := 26) (by omega) (by omega) dX6_rate_23 rfl (by decide) (fun c23 => ?_) (fun c23 => ?_) | refine j_icmp_le (tgt := 51) (pc' := 26) dX6_rate_23 rfl (by decide) (fun c23 => ?_) (fun c23 => ?_)
    ·
      refine j_iload_n (pc' := 52) dX6_rate_51 rfl rfl ?_
      refine j_reti dX6_rate_52 rfl (by first | rfl | exact bi_n _) ?_
      refine ⟨?_, rfl⟩
      rfl
    ·
      refine j_iload_n (pc' := 27) dX6_rate_26 rfl rfl ?_
      first | refine j_if_leN (tgt := 51) (pc' := 30) (by omega) dX6_rate_27 rfl (by decide) (fun c27 => ?_) (fun c27 => ?_) | refine j_if_le (tgt := 51) (pc' := 30) dX6_rate_27 rfl (by decide) (fun c27 => ?_) (fun c27 => ?_)
      ·
        refine j_iload_n (pc' := 52) dX6_rate_51 rfl rfl ?_
        refine j_reti dX6_rate_52 rfl (by first | rfl | exact bi_n _) ?_
        refine ⟨?_, rfl⟩
        rfl
      ·
        exact absurd c27 (by omega)
  | succ t ih =>
    intro acc ht
    refine j_iload_n (pc' := 10) dX6_rate_9 rfl rfl ?_
    refine j_aload_n (pc' := 11) dX6_rate_10 rfl rfl ?_
    refine j_getR (pc' := 14) f_X6_7 (by assumption) (by assumption) dX6_rate_11 rfl ?_
    refine j_iconst (pc' := 15) (v := nI 1) dX6_rate_14 rfl rfl ?_
    refine j_ialdv (pc' := 16) (by assumption) rfl (by omega) (by omega) (by first | (simp (disch := omega) only [jx_upS, jx_upK, jx_upA, mI_0, mI_1, mI_2, mI_3, mI_4, mI_5, mI_6, pk_us, pk_un, hT, hS]; rfl) | rfl) dX6_rate_15 rfl ?_
    refine j_aload_n (pc' := 17) dX6_rate_16 rfl rfl ?_
    refine j_getR (pc' := 20) f_X6_7 (by assumption) (by assumption) dX6_rate_17 rfl ?_
    refine j_iconst (pc' := 21) (v := nI 5) dX6_rate_20 rfl rfl ?_
    refine j_ialdv (pc' := 22) (by assumption) rfl (by omega) (by omega) (by first | (simp (disch := omega) only [jx_upS, jx_upK, jx_upA, mI_0, mI_1, mI_2, mI_3, mI_4, mI_5, mI_6, pk_us, pk_un, hT, hS]; rfl) | rfl) dX6_rate_21 rfl ?_
    first | refine j_isubN (pc' := 23) (by omega) dX6_rate_22 rfl ?_ | refine j_isub (pc' := 23) dX6_rate_22 rfl ?_
    first | refine j_icmp_leN (tgt := 51) (pc' := 26) (by omega) (by omega) dX6_rate_23 rfl (by decide) (fun c23 => ?_) (fun c23 => ?_) | refine j_icmp_le (tgt := 51) (pc' := 26) dX6_rate_23 rfl (by decide) (fun c23 => ?_) (fun c23 => ?_)
    ·
      refine j_iload_n (pc' := 52) dX6_rate_51 rfl rfl ?_
      refine j_reti dX6_rate_52 rfl (by first | rfl | exact bi_n _) ?_
      refine ⟨?_, rfl⟩
      first | (rw [rsum, if_neg (by rw [rs_le (by omega) (by omega) (by omega)] at c23; omega)]; done) | (exfalso; omega)
    ·
      refine j_iload_n (pc' := 27) dX6_rate_26 rfl rfl ?_
      first | refine j_if_leN (tgt := 51) (pc' := 30) (by omega) dX6_rate_27 rfl (by decide) (fun c27 => ?_) (fun c27 => ?_) | refine j_if_le (tgt := 51) (pc' := 30) dX6_rate_27 rfl (by decide) (fun c27 => ?_) (fun c27 => ?_)
      ·
        refine j_iload_n (pc' := 52) dX6_rate_51 rfl rfl ?_
        refine j_reti dX6_rate_52 rfl (by first | rfl | exact bi_n _) ?_
        refine ⟨?_, rfl⟩
        first | (rw [rsum, if_neg (by rw [rs_le (by omega) (by omega) (by omega)] at c23; omega)]; done) | (exfalso; omega)
      ·
        refine j_iload_n (pc' := 31) dX6_rate_30 rfl rfl ?_
        refine j_aload_n (pc' := 32) dX6_rate_31 rfl rfl ?_
        refine j_getR (pc' := 35) f_X6_7 (by assumption) (by assumption) dX6_rate_32 rfl ?_
        refine j_bipush (pc' := 37) (v := nI 16) dX6_rate_35 rfl rfl ?_
        refine j_iload_n (pc' := 38) dX6_rate_37 rfl rfl ?_
        refine j_bipush (pc' := 40) (v := nI 64) dX6_rate_38 rfl rfl ?_
        refine j_iremN (pc' := 41) (by omega) (by omega) (by omega) dX6_rate_40 rfl ?_
        first | refine j_iaddN (pc' := 42) dX6_rate_41 rfl ?_ | refine j_iadd (pc' := 42) dX6_rate_41 rfl ?_
        refine j_ialdv (pc' := 43) (by assumption) rfl (by omega) (by omega) (by first | (simp (disch := omega) only [jx_upS, jx_upK, jx_upA, mI_0, mI_1, mI_2, mI_3, mI_4, mI_5, mI_6, pk_us, pk_un, hT, hS]; rfl) | rfl) dX6_rate_42 rfl ?_
        first | refine j_iaddN (pc' := 44) dX6_rate_43 rfl ?_ | refine j_iadd (pc' := 44) dX6_rate_43 rfl ?_
        refine j_istore_n (pc' := 45) (lv' := [_, _, _]) dX6_rate_44 rfl (by decide) rfl ?_
        refine j_iincP (pc' := 48) (lv' := [_, _, _]) (by omega) dX6_rate_45 rfl rfl (by decide) rfl ?_
        refine j_goto (tgt := 9) dX6_rate_48 (by decide) ?_
        rw [rs_le (by omega) (by omega) (by omega)] at c23
        rw [rsum, if_pos (by omega)]
        exact ih _ (by omega)
set_option maxRecDepth 100000 in
set_option maxHeartbeats 4000000 in
theorem c_X6_rate {E : jx_E} {l : Launch} {n : Nat} {kd : jx_K} {R : jx_R} {I0 : jx_I} {m : Nat} {F v a p o t0 c : Nat → Int32} {T S : Nat} (hs : sMd kd R m) (hT : v 1 = nI T) (hS : v 5 = nI S) (hT1 : T ≤ 10000) (hS1 : S ≤ 60) : jx_Ci E l yX6_rate cX6_rate 3 (some .int) 0 n kd R (mI I0 m F v a p o t0 c) [.ref m] (fun r I' => r = rsum v T S T (nI 0) ∧ I' = mI I0 m F v a p o t0 c) := by
  obtain ⟨K0, K1, K2, K3, K4, K5, K6, R0, R1, R2, R4, R6, R10⟩ := id hs
  refine jx_C0.ofJ RX6 [some (.ref m), none, none] (by decide) rfl rfl (Nat.le_of_ble_eq_true rfl) rfl ?_
  refine j_iconst (pc' := 1) (v := nI 0) dX6_rate_0 rfl rfl ?_
  refine j_istore_n (pc' := 2) (lv' := [_, _, _]) dX6_rate_1 rfl (by decide) rfl ?_
  refine j_aload_n (pc' := 3) dX6_rate_2 rfl rfl ?_
  refine j_getR (pc' := 6) f_X6_7 (by assumption) (by assumption) dX6_rate_3 rfl ?_
  refine j_iconst (pc' := 7) (v := nI 1) dX6_rate_6 rfl rfl ?_
  refine j_ialdv (pc' := 8) (by assumption) rfl (by omega) (by omega) (by first | (simp (disch := omega) only [jx_upS, jx_upK, jx_upA, mI_0, mI_1, mI_2, mI_3, mI_4, mI_5, mI_6, pk_us, pk_un, hT, hS]; rfl) | rfl) dX6_rate_7 rfl ?_
  refine j_istore_n (pc' := 9) (lv' := [_, _, _]) dX6_rate_8 rfl (by decide) rfl ?_
  exact lp_X6_rate hs hT hS hT1 hS1 T (nI 0) (Nat.le_refl _)
def fPlant (v : Nat → Int32) (T S : Nat) (x : Int32) : Int32 :=
  if decide (nI 0 ≤ x ∧ x ≤ nI 4) = true then if x = 0 then v 1 else if x = nI 1 then v 2 else if x = nI 2 then v 3 else if x = nI 3 then rsum v T S T (nI 0) else v 8 else -20001

set_option maxRecDepth 100000 in
set_option maxHeartbeats 4000000 in
theorem c_X6_plant {E : jx_E} {l : Launch} {n : Nat} {kd : jx_K} {R : jx_R} {I0 : jx_I} {m : Nat} {F v a p o t c : Nat → Int32} {T S : Nat} {x : Int32} (hs : sMd kd R m) (hT : v 1 = nI T) (hS : v 5 = nI S) (hT1 : T ≤ 10000) (hS1 : S ≤ 60) : jx_Ci E l yX6_plant cX6_plant 2 (some .int) 1 n kd R (mI I0 m F v a p o t c) [.ref m, .int x] (fun r I' => r = fPlant v T S x ∧ I' = mI I0 m F v a p o t c) := by
  obtain ⟨K0, K1, K2, K3, K4, K5, K6, R0, R1, R2, R4, R6, R10⟩ := id hs
  refine jx_C0.ofJ RX6 [some (.ref m), some (.int x)] (by decide) rfl rfl (Nat.le_of_ble_eq_true rfl) rfl ?_
  refine j_iload_n (pc' := 1) dX6_plant_0 rfl rfl ?_
  refine j_iconst (pc' := 2) (v := nI 0) dX6_plant_1 rfl rfl ?_
  refine j_iconst (pc' := 3) (v := nI 4) dX6_plant_2 rfl rfl ?_
  refine j_cSi (pc' := 6) m_X6_32 (c_X6_in E l n kd R _ _ _ _) rfl rfl ⟨Nat.le_of_ble_eq_true rfl, Nat.le_of_ble_eq_true rfl⟩ ⟨Nat.zero_le _, Nat.zero_le _⟩ (Nat.le_of_ble_eq_true rfl) dX6_plant_3 rfl (fun x1 I1 hq => ?_)
  obtain ⟨rfl, rfl⟩ := hq
  first | refine j_if_neB (tgt := 13) (pc' := 9) dX6_plant_6 rfl (by decide) (fun c6 => ?_) (fun c6 => ?_) | refine j_if_neN (tgt := 13) (pc' := 9) (by omega) dX6_plant_6 rfl (by decide) (fun c6 => ?_) (fun c6 => ?_) | refine j_if_ne (tgt := 13) (pc' := 9) dX6_plant_6 rfl (by decide) (fun c6 => ?_) (fun c6 => ?_)
  ·
    refine j_iload_n (pc' := 14) dX6_plant_13 rfl rfl ?_
    first | refine j_if_neB (tgt := 26) (pc' := 17) dX6_plant_14 rfl (by decide) (fun c14 => ?_) (fun c14 => ?_) | refine j_if_neN (tgt := 26) (pc' := 17) (by omega) dX6_plant_14 rfl (by decide) (fun c14 => ?_) (fun c14 => ?_) | refine j_if_ne (tgt := 26) (pc' := 17) dX6_plant_14 rfl (by decide) (fun c14 => ?_) (fun c14 => ?_)
    ·
      refine j_iload_n (pc' := 27) dX6_plant_26 rfl rfl ?_
      refine j_iconst (pc' := 28) (v := nI 1) dX6_plant_27 rfl rfl ?_
      first | refine j_icmp_neN (tgt := 40) (pc' := 31) (by omega) (by omega) dX6_plant_28 rfl (by decide) (fun c28 => ?_) (fun c28 => ?_) | refine j_icmp_ne (tgt := 40) (pc' := 31) dX6_plant_28 rfl (by decide) (fun c28 => ?_) (fun c28 => ?_)
      ·
        refine j_iload_n (pc' := 41) dX6_plant_40 rfl rfl ?_
        refine j_iconst (pc' := 42) (v := nI 2) dX6_plant_41 rfl rfl ?_
        first | refine j_icmp_neN (tgt := 54) (pc' := 45) (by omega) (by omega) dX6_plant_42 rfl (by decide) (fun c42 => ?_) (fun c42 => ?_) | refine j_icmp_ne (tgt := 54) (pc' := 45) dX6_plant_42 rfl (by decide) (fun c42 => ?_) (fun c42 => ?_)
        ·
          refine j_iload_n (pc' := 55) dX6_plant_54 rfl rfl ?_
          refine j_iconst (pc' := 56) (v := nI 3) dX6_plant_55 rfl rfl ?_
          first | refine j_icmp_neN (tgt := 66) (pc' := 59) (by omega) (by omega) dX6_plant_56 rfl (by decide) (fun c56 => ?_) (fun c56 => ?_) | refine j_icmp_ne (tgt := 66) (pc' := 59) dX6_plant_56 rfl (by decide) (fun c56 => ?_) (fun c56 => ?_)
          ·
            refine j_aload_n (pc' := 67) dX6_plant_66 rfl rfl ?_
            refine j_getR (pc' := 70) f_X6_7 (by assumption) (by assumption) dX6_plant_67 rfl ?_
            refine j_bipush (pc' := 72) (v := nI 8) dX6_plant_70 rfl rfl ?_
            refine j_ialdv (pc' := 73) (by assumption) rfl (by omega) (by omega) (by first | (simp (disch := omega) only [jx_upS, jx_upK, jx_upA, mI_0, mI_1, mI_2, mI_3, mI_4, mI_5, mI_6, pk_us, pk_un]; rfl) | rfl) dX6_plant_72 rfl ?_
            refine j_reti dX6_plant_73 rfl (by first | rfl | exact bi_n _) ?_
            refine ⟨?_, rfl⟩
            unfold fPlant
            first | rw [if_pos c6] | rw [if_neg c6] | rw [if_neg (by rw [c6]; decide)]
            first | rw [if_pos c14] | rw [if_neg c14] | rw [if_neg (by rw [c14]; decide)]
            first | rw [if_pos c28] | rw [if_neg c28] | rw [if_neg (by rw [c28]; decide)]
            first | rw [if_pos c42] | rw [if_neg c42] | rw [if_neg (by rw [c42]; decide)]
            first | rw [if_pos c56] | rw [if_neg c56] | rw [if_neg (by rw [c56]; decide)]
          ·
            refine j_aload_n (pc' := 60) dX6_plant_59 rfl rfl ?_
            refine j_cVi (pc' := 63) m_X6_103 (c_X6_rate hs hT hS hT1 hS1) (by assumption) (by decide) rfl rfl rfl ⟨Nat.le_of_ble_eq_true rfl, Nat.le_of_ble_eq_true rfl⟩ ⟨Nat.zero_le _, Nat.zero_le _⟩ (Nat.le_of_ble_eq_true rfl) dX6_plant_60 rfl (fun x1 I1 hq => ?_)
            obtain ⟨rfl, rfl⟩ := hq
            refine j_goto (tgt := 73) dX6_plant_63 (by decide) ?_
            refine j_reti dX6_plant_73 rfl (by first | rfl | exact bi_n _) ?_
            refine ⟨?_, rfl⟩
            unfold fPlant
            first | rw [if_pos c6] | rw [if_neg c6] | rw [if_neg (by rw [c6]; decide)]
            first | rw [if_pos c14] | rw [if_neg c14] | rw [if_neg (by rw [c14]; decide)]
            first | rw [if_pos c28] | rw [if_neg c28] | rw [if_neg (by rw [c28]; decide)]
            first | rw [if_pos c42] | rw [if_neg c42] | rw [if_neg (by rw [c42]; decide)]
            first | rw [if_pos c56] | rw [if_neg c56] | rw [if_neg (by rw [c56]; decide)]
        ·
          refine j_aload_n (pc' := 46) dX6_plant_45 rfl rfl ?_
          refine j_getR (pc' := 49) f_X6_7 (by assumption) (by assumption) dX6_plant_46 rfl ?_
          refine j_iconst (pc' := 50) (v := nI 3) dX6_plant_49 rfl rfl ?_
          refine j_ialdv (pc' := 51) (by assumption) rfl (by omega) (by omega) (by first | (simp (disch := omega) only [jx_upS, jx_upK, jx_upA, mI_0, mI_1, mI_2, mI_3, mI_4, mI_5, mI_6, pk_us, pk_un]; rfl) | rfl) dX6_plant_50 rfl ?_
          refine j_goto (tgt := 73) dX6_plant_51 (by decide) ?_
          refine j_reti dX6_plant_73 rfl (by first | rfl | exact bi_n _) ?_
          refine ⟨?_, rfl⟩
          unfold fPlant
          first | rw [if_pos c6] | rw [if_neg c6] | rw [if_neg (by rw [c6]; decide)]
          first | rw [if_pos c14] | rw [if_neg c14] | rw [if_neg (by rw [c14]; decide)]
          first | rw [if_pos c28] | rw [if_neg c28] | rw [if_neg (by rw [c28]; decide)]
          first | rw [if_pos c42] | rw [if_neg c42] | rw [if_neg (by rw [c42]; decide)]
      ·
        refine j_aload_n (pc' := 32) dX6_plant_31 rfl rfl ?_
        refine j_getR (pc' := 35) f_X6_7 (by assumption) (by assumption) dX6_plant_32 rfl ?_
        refine j_iconst (pc' := 36) (v := nI 2) dX6_plant_35 rfl rfl ?_
        refine j_ialdv (pc' := 37) (by assumption) rfl (by omega) (by omega) (by first | (simp (disch := omega) only [jx_upS, jx_upK, jx_upA, mI_0, mI_1, mI_2, mI_3, mI_4, mI_5, mI_6, pk_us, pk_un]; rfl) | rfl) dX6_plant_36 rfl ?_
        refine j_goto (tgt := 73) dX6_plant_37 (by decide) ?_
        refine j_reti dX6_plant_73 rfl (by first | rfl | exact bi_n _) ?_
        refine ⟨?_, rfl⟩
        unfold fPlant
        first | rw [if_pos c6] | rw [if_neg c6] | rw [if_neg (by rw [c6]; decide)]
        first | rw [if_pos c14] | rw [if_neg c14] | rw [if_neg (by rw [c14]; decide)]
        first | rw [if_pos c28] | rw [if_neg c28] | rw [if_neg (by rw [c28]; decide)]
    ·
      refine j_aload_n (pc' := 18) dX6_plant_17 rfl rfl ?_
      refine j_getR (pc' := 21) f_X6_7 (by assumption) (by assumption) dX6_plant_18 rfl ?_
      refine j_iconst (pc' := 22) (v := nI 1) dX6_plant_21 rfl rfl ?_
      refine j_ialdv (pc' := 23) (by assumption) rfl (by omega) (by omega) (by first | (simp (disch := omega) only [jx_upS, jx_upK, jx_upA, mI_0, mI_1, mI_2, mI_3, mI_4, mI_5, mI_6, pk_us, pk_un]; rfl) | rfl) dX6_plant_22 rfl ?_
      refine j_goto (tgt := 73) dX6_plant_23 (by decide) ?_
      refine j_reti dX6_plant_73 rfl (by first | rfl | exact bi_n _) ?_
      refine ⟨?_, rfl⟩
      unfold fPlant
      first | rw [if_pos c6] | rw [if_neg c6] | rw [if_neg (by rw [c6]; decide)]
      first | rw [if_pos c14] | rw [if_neg c14] | rw [if_neg (by rw [c14]; decide)]
  ·
    refine j_sipush (pc' := 12) (v := -20001) dX6_plant_9 rfl rfl ?_
    refine j_reti dX6_plant_12 rfl (by first | rfl | exact bi_n _) ?_
    refine ⟨?_, rfl⟩
    unfold fPlant
    first | rw [if_pos c6] | rw [if_neg c6] | rw [if_neg (by rw [c6]; decide)]
end
section
def cpA (v a : Nat → Int32) : Nat → Int32 := fun j => if j < 1080 then v j else a j
theorem cpVA {I0 : jx_I} {m : Nat} {F v a p o t c : Nat → Int32} : va_up (mI I0 m F v a p o t c) (m + 2) (fun j => if j < 1080 then mI I0 m F v a p o t c (m + 1) j else mI I0 m F v a p o t c (m + 2) j) = mI I0 m F v (cpA v a) p o t c := by
  rw [mI_1, mI_2]
  funext b
  by_cases hb : b = m + 2
  · subst hb
    rw [va_up_self, mI_2]
    rfl
  · rw [va_up_ne _ _ hb]
    simp [mI, hb]
theorem cpAV {I0 : jx_I} {m : Nat} {F v a p o t c : Nat → Int32} : va_up (mI I0 m F v a p o t c) (m + 1) (fun j => if j < 1080 then mI I0 m F v a p o t c (m + 2) j else mI I0 m F v a p o t c (m + 1) j) = mI I0 m F (cpA a v) a p o t c := by
  rw [mI_1, mI_2]
  funext b
  by_cases hb : b = m + 1
  · subst hb
    rw [va_up_self, mI_1]
    rfl
  · rw [va_up_ne _ _ hb]
    simp [mI, hb]

set_option maxRecDepth 100000 in
set_option maxHeartbeats 4000000 in
theorem c_X6_setValue {E : jx_E} {l : Launch} {n : Nat} {kd : jx_K} {R : jx_R} {I0 : jx_I} {m : Nat} {F v a p o t c : Nat → Int32} {k q : Nat} {x y : Int32} (hs : sMd kd R m) (hk : v 0 = nI k) (h16 : k ≤ 16) (hc : F 3 = nI q) (hc4 : q ≤ 4) : jx_Ci E l yX6_setValue cX6_setValue 3 (some .int) 3 n kd R (mI I0 m F v a p o t c) [.ref m, .int x, .int y] (fun r I' => r = (fVal v x y).1 ∧ I' = if isE (fVal v x y).1 = true then mI I0 m F ((fVal v x y).2) (cpA v a) p o t c else mI I0 m (upd F 3 (nI (kpC q))) ((fVal v x y).2) (cpA v a) (kpP p q (cpA v a)) o t c) := by
  obtain ⟨K0, K1, K2, K3, K4, K5, K6, R0, R1, R2, R4, R6, R10⟩ := id hs
  refine jx_C0.ofJ RX6 [some (.ref m), some (.int x), some (.int y)] (by decide) rfl rfl (Nat.le_of_ble_eq_true rfl) rfl ?_
  refine j_aload_n (pc' := 1) dX6_setValue_0 rfl rfl ?_
  refine j_getR (pc' := 4) f_X6_7 (by assumption) (by assumption) dX6_setValue_1 rfl ?_
  refine j_aload_n (pc' := 5) dX6_setValue_4 rfl rfl ?_
  refine j_getR (pc' := 8) f_X6_13 (by assumption) (by assumption) dX6_setValue_5 rfl ?_
  refine j_cSv (pc' := 11) m_X6_67 (c_X6_copies K1 K2 (by omega)) rfl rfl ⟨Nat.le_of_ble_eq_true rfl, Nat.le_of_ble_eq_true rfl⟩ ⟨Nat.zero_le _, Nat.zero_le _⟩ (Nat.le_of_ble_eq_true rfl) dX6_setValue_8 rfl (fun I1 hq => ?_)
  subst hq
  rw [cpVA]
  refine j_aload_n (pc' := 12) dX6_setValue_11 rfl rfl ?_
  refine j_aload_n (pc' := 13) dX6_setValue_12 rfl rfl ?_
  refine j_iload_n (pc' := 14) dX6_setValue_13 rfl rfl ?_
  refine j_iload_n (pc' := 15) dX6_setValue_14 rfl rfl ?_
  refine j_cVi (pc' := 18) m_X6_71 (c_X6_fVal hs hk h16) (by assumption) (by decide) rfl rfl rfl ⟨Nat.le_of_ble_eq_true rfl, Nat.le_of_ble_eq_true rfl⟩ ⟨Nat.zero_le _, Nat.zero_le _⟩ (Nat.le_of_ble_eq_true rfl) dX6_setValue_15 rfl (fun x1 I1 hq => ?_)
  obtain ⟨rfl, rfl⟩ := hq
  refine j_cVi (pc' := 21) m_X6_74 (c_X6_acts hs hc hc4) (by assumption) (by decide) rfl rfl rfl ⟨Nat.le_of_ble_eq_true rfl, Nat.le_of_ble_eq_true rfl⟩ ⟨Nat.zero_le _, Nat.zero_le _⟩ (Nat.le_of_ble_eq_true rfl) dX6_setValue_18 rfl (fun x1 I1 hq => ?_)
  obtain ⟨rfl, rfl⟩ := hq
  refine j_reti dX6_setValue_21 rfl (by first | rfl | exact bi_n _) ?_
  exact ⟨rfl, rfl⟩

set_option maxRecDepth 100000 in
set_option maxHeartbeats 4000000 in
theorem c_X6_setState {E : jx_E} {l : Launch} {n : Nat} {kd : jx_K} {R : jx_R} {I0 : jx_I} {m : Nat} {F v a p o t c : Nat → Int32} {q : Nat} {x : Int32} (hs : sMd kd R m) (hc : F 3 = nI q) (hc4 : q ≤ 4) : jx_Ci E l yX6_setState cX6_setState 2 (some .int) 3 n kd R (mI I0 m F v a p o t c) [.ref m, .int x] (fun r I' => r = (fMod v x).1 ∧ I' = if isE (fMod v x).1 = true then mI I0 m F ((fMod v x).2) (cpA v a) p o t c else mI I0 m (upd F 3 (nI (kpC q))) ((fMod v x).2) (cpA v a) (kpP p q (cpA v a)) o t c) := by
  obtain ⟨K0, K1, K2, K3, K4, K5, K6, R0, R1, R2, R4, R6, R10⟩ := id hs
  refine jx_C0.ofJ RX6 [some (.ref m), some (.int x)] (by decide) rfl rfl (Nat.le_of_ble_eq_true rfl) rfl ?_
  refine j_aload_n (pc' := 1) dX6_setState_0 rfl rfl ?_
  refine j_getR (pc' := 4) f_X6_7 (by assumption) (by assumption) dX6_setState_1 rfl ?_
  refine j_aload_n (pc' := 5) dX6_setState_4 rfl rfl ?_
  refine j_getR (pc' := 8) f_X6_13 (by assumption) (by assumption) dX6_setState_5 rfl ?_
  refine j_cSv (pc' := 11) m_X6_67 (c_X6_copies K1 K2 (by omega)) rfl rfl ⟨Nat.le_of_ble_eq_true rfl, Nat.le_of_ble_eq_true rfl⟩ ⟨Nat.zero_le _, Nat.zero_le _⟩ (Nat.le_of_ble_eq_true rfl) dX6_setState_8 rfl (fun I1 hq => ?_)
  subst hq
  rw [cpVA]
  refine j_aload_n (pc' := 12) dX6_setState_11 rfl rfl ?_
  refine j_aload_n (pc' := 13) dX6_setState_12 rfl rfl ?_
  refine j_iload_n (pc' := 14) dX6_setState_13 rfl rfl ?_
  refine j_cVi (pc' := 17) m_X6_90 (c_X6_fMod hs) (by assumption) (by decide) rfl rfl rfl ⟨Nat.le_of_ble_eq_true rfl, Nat.le_of_ble_eq_true rfl⟩ ⟨Nat.zero_le _, Nat.zero_le _⟩ (Nat.le_of_ble_eq_true rfl) dX6_setState_14 rfl (fun x1 I1 hq => ?_)
  obtain ⟨rfl, rfl⟩ := hq
  refine j_cVi (pc' := 20) m_X6_74 (c_X6_acts hs hc hc4) (by assumption) (by decide) rfl rfl rfl ⟨Nat.le_of_ble_eq_true rfl, Nat.le_of_ble_eq_true rfl⟩ ⟨Nat.zero_le _, Nat.zero_le _⟩ (Nat.le_of_ble_eq_true rfl) dX6_setState_17 rfl (fun x1 I1 hq => ?_)
  obtain ⟨rfl, rfl⟩ := hq
  refine j_reti dX6_setState_20 rfl (by first | rfl | exact bi_n _) ?_
  exact ⟨rfl, rfl⟩

set_option maxRecDepth 100000 in
set_option maxHeartbeats 4000000 in
theorem c_X6_ack {E : jx_E} {l : Launch} {n : Nat} {kd : jx_K} {R : jx_R} {I0 : jx_I} {m : Nat} {F v a p o t c : Nat → Int32} {k q N : Nat} {x : Int32} (hs : sMd kd R m) (hk : v 0 = nI k) (h16 : k ≤ 16) (hc : F 3 = nI q) (hc4 : q ≤ 4) (hN : v 9 = nI N) (hNb : N < 2147483000) : jx_Ci E l yX6_ack cX6_ack 2 (some .int) 3 n kd R (mI I0 m F v a p o t c) [.ref m, .int x] (fun r I' => r = (fAck v x).1 ∧ I' = if isE (fAck v x).1 = true then mI I0 m F ((fAck v x).2) (cpA v a) p o t c else mI I0 m (upd F 3 (nI (kpC q))) ((fAck v x).2) (cpA v a) (kpP p q (cpA v a)) o t c) := by
  obtain ⟨K0, K1, K2, K3, K4, K5, K6, R0, R1, R2, R4, R6, R10⟩ := id hs
  refine jx_C0.ofJ RX6 [some (.ref m), some (.int x)] (by decide) rfl rfl (Nat.le_of_ble_eq_true rfl) rfl ?_
  refine j_aload_n (pc' := 1) dX6_ack_0 rfl rfl ?_
  refine j_getR (pc' := 4) f_X6_7 (by assumption) (by assumption) dX6_ack_1 rfl ?_
  refine j_aload_n (pc' := 5) dX6_ack_4 rfl rfl ?_
  refine j_getR (pc' := 8) f_X6_13 (by assumption) (by assumption) dX6_ack_5 rfl ?_
  refine j_cSv (pc' := 11) m_X6_67 (c_X6_copies K1 K2 (by omega)) rfl rfl ⟨Nat.le_of_ble_eq_true rfl, Nat.le_of_ble_eq_true rfl⟩ ⟨Nat.zero_le _, Nat.zero_le _⟩ (Nat.le_of_ble_eq_true rfl) dX6_ack_8 rfl (fun I1 hq => ?_)
  subst hq
  rw [cpVA]
  refine j_aload_n (pc' := 12) dX6_ack_11 rfl rfl ?_
  refine j_aload_n (pc' := 13) dX6_ack_12 rfl rfl ?_
  refine j_iload_n (pc' := 14) dX6_ack_13 rfl rfl ?_
  refine j_cVi (pc' := 17) m_X6_113 (c_X6_fAck hs hk h16 hN hNb) (by assumption) (by decide) rfl rfl rfl ⟨Nat.le_of_ble_eq_true rfl, Nat.le_of_ble_eq_true rfl⟩ ⟨Nat.zero_le _, Nat.zero_le _⟩ (Nat.le_of_ble_eq_true rfl) dX6_ack_14 rfl (fun x1 I1 hq => ?_)
  obtain ⟨rfl, rfl⟩ := hq
  refine j_cVi (pc' := 20) m_X6_74 (c_X6_acts hs hc hc4) (by assumption) (by decide) rfl rfl rfl ⟨Nat.le_of_ble_eq_true rfl, Nat.le_of_ble_eq_true rfl⟩ ⟨Nat.zero_le _, Nat.zero_le _⟩ (Nat.le_of_ble_eq_true rfl) dX6_ack_17 rfl (fun x1 I1 hq => ?_)
  obtain ⟨rfl, rfl⟩ := hq
  refine j_reti dX6_ack_20 rfl (by first | rfl | exact bi_n _) ?_
  exact ⟨rfl, rfl⟩

set_option maxRecDepth 100000 in
set_option maxHeartbeats 4000000 in
theorem c_X6_shelve {E : jx_E} {l : Launch} {n : Nat} {kd : jx_K} {R : jx_R} {I0 : jx_I} {m : Nat} {F v a p o t c : Nat → Int32} {k q N : Nat} {x y : Int32} (hs : sMd kd R m) (hk : v 0 = nI k) (h16 : k ≤ 16) (hc : F 3 = nI q) (hc4 : q ≤ 4) (hN : v 9 = nI N) (hNb : N < 2147483000) : jx_Ci E l yX6_shelve cX6_shelve 3 (some .int) 3 n kd R (mI I0 m F v a p o t c) [.ref m, .int x, .int y] (fun r I' => r = (fShv v x y).1 ∧ I' = if isE (fShv v x y).1 = true then mI I0 m F ((fShv v x y).2) (cpA v a) p o t c else mI I0 m (upd F 3 (nI (kpC q))) ((fShv v x y).2) (cpA v a) (kpP p q (cpA v a)) o t c) := by
  obtain ⟨K0, K1, K2, K3, K4, K5, K6, R0, R1, R2, R4, R6, R10⟩ := id hs
  refine jx_C0.ofJ RX6 [some (.ref m), some (.int x), some (.int y)] (by decide) rfl rfl (Nat.le_of_ble_eq_true rfl) rfl ?_
  refine j_aload_n (pc' := 1) dX6_shelve_0 rfl rfl ?_
  refine j_getR (pc' := 4) f_X6_7 (by assumption) (by assumption) dX6_shelve_1 rfl ?_
  refine j_aload_n (pc' := 5) dX6_shelve_4 rfl rfl ?_
  refine j_getR (pc' := 8) f_X6_13 (by assumption) (by assumption) dX6_shelve_5 rfl ?_
  refine j_cSv (pc' := 11) m_X6_67 (c_X6_copies K1 K2 (by omega)) rfl rfl ⟨Nat.le_of_ble_eq_true rfl, Nat.le_of_ble_eq_true rfl⟩ ⟨Nat.zero_le _, Nat.zero_le _⟩ (Nat.le_of_ble_eq_true rfl) dX6_shelve_8 rfl (fun I1 hq => ?_)
  subst hq
  rw [cpVA]
  refine j_aload_n (pc' := 12) dX6_shelve_11 rfl rfl ?_
  refine j_aload_n (pc' := 13) dX6_shelve_12 rfl rfl ?_
  refine j_iload_n (pc' := 14) dX6_shelve_13 rfl rfl ?_
  refine j_iload_n (pc' := 15) dX6_shelve_14 rfl rfl ?_
  refine j_cVi (pc' := 18) m_X6_125 (c_X6_fShv hs hk h16 hN hNb) (by assumption) (by decide) rfl rfl rfl ⟨Nat.le_of_ble_eq_true rfl, Nat.le_of_ble_eq_true rfl⟩ ⟨Nat.zero_le _, Nat.zero_le _⟩ (Nat.le_of_ble_eq_true rfl) dX6_shelve_15 rfl (fun x1 I1 hq => ?_)
  obtain ⟨rfl, rfl⟩ := hq
  refine j_cVi (pc' := 21) m_X6_74 (c_X6_acts hs hc hc4) (by assumption) (by decide) rfl rfl rfl ⟨Nat.le_of_ble_eq_true rfl, Nat.le_of_ble_eq_true rfl⟩ ⟨Nat.zero_le _, Nat.zero_le _⟩ (Nat.le_of_ble_eq_true rfl) dX6_shelve_18 rfl (fun x1 I1 hq => ?_)
  obtain ⟨rfl, rfl⟩ := hq
  refine j_reti dX6_shelve_21 rfl (by first | rfl | exact bi_n _) ?_
  exact ⟨rfl, rfl⟩

def fUns (v : Nat → Int32) (x : Int32) : Int32 × (Nat → Int32) :=
  if okP v x = true then
    if v (176 + 56 * x.toNatClampNeg + 13) = 0 then (-20002, v)
    else (v (176 + 56 * x.toNatClampNeg + 13) - v 1, sHap (upd v (176 + 56 * x.toNatClampNeg + 13) (nI 0)) (nI 5) x)
  else (-20001, v)
def okF (x y z : Int32) : Bool := decide (nI 1 ≤ x ∧ x ≤ nI 60) && (decide (nI 1 ≤ y ∧ y ≤ nI 50) && decide (nI 0 ≤ z ∧ z ≤ y))
def okS (s x : Int32) : Bool :=
  if s = nI 0 then decide (nI 0 ≤ x ∧ x ≤ nI 1) else if s = nI 1 then okV x else if s = nI 2 then decide (nI 0 ≤ x ∧ x ≤ nI 1000) else if s = nI 3 then decide (nI 0 ≤ x ∧ x ≤ nI 20) else if s = nI 4 then decide (nI 0 ≤ x ∧ x ≤ nI 20) else if s = nI 5 then decide (nI 1 ≤ x ∧ x ≤ nI 4) else if s = nI 6 then decide (nI 0 ≤ x ∧ x ≤ nI 15) else false
/-- kept in the history if something was done -/
def isKept (r : Int32) : Bool := !(decide (r = -20001) || decide (r = -20002) || decide (r = -20003))

set_option maxRecDepth 100000 in
set_option maxHeartbeats 4000000 in
theorem c_X6_unshelve {E : jx_E} {l : Launch} {n : Nat} {kd : jx_K} {R : jx_R} {I0 : jx_I} {m : Nat} {F v a p o t c : Nat → Int32} {k q N : Nat} {x : Int32} (hs : sMd kd R m) (hk : v 0 = nI k) (h16 : k ≤ 16) (hc : F 3 = nI q) (hc4 : q ≤ 4) (hN : v 9 = nI N) (hNb : N < 2147483000) : jx_Ci E l yX6_unshelve cX6_unshelve 3 (some .int) 2 n kd R (mI I0 m F v a p o t c) [.ref m, .int x] (fun r I' => r = (fUns v x).1 ∧ I' = if okP v x = true ∧ ¬ v (176 + 56 * x.toNatClampNeg + 13) = 0 then mI I0 m (upd F 3 (nI (kpC q))) ((fUns v x).2) a (kpP p q v) o t c else mI I0 m F v a p o t c) := by
  obtain ⟨K0, K1, K2, K3, K4, K5, K6, R0, R1, R2, R4, R6, R10⟩ := id hs
  refine jx_C0.ofJ RX6 [some (.ref m), some (.int x), none] (by decide) rfl rfl (Nat.le_of_ble_eq_true rfl) rfl ?_
  refine j_aload_n (pc' := 1) dX6_unshelve_0 rfl rfl ?_
  refine j_iload_n (pc' := 2) dX6_unshelve_1 rfl rfl ?_
  refine j_cVi (pc' := 5) m_X6_52 (c_X6_isPoint hs) (by assumption) (by decide) rfl rfl rfl ⟨Nat.le_of_ble_eq_true rfl, Nat.le_of_ble_eq_true rfl⟩ ⟨Nat.zero_le _, Nat.zero_le _⟩ (Nat.le_of_ble_eq_true rfl) dX6_unshelve_2 rfl (fun x1 I1 hq => ?_)
  obtain ⟨rfl, rfl⟩ := hq
  first | refine j_if_neB (tgt := 12) (pc' := 8) dX6_unshelve_5 rfl (by decide) (fun c5 => ?_) (fun c5 => ?_) | refine j_if_neN (tgt := 12) (pc' := 8) (by omega) dX6_unshelve_5 rfl (by decide) (fun c5 => ?_) (fun c5 => ?_) | refine j_if_ne (tgt := 12) (pc' := 8) dX6_unshelve_5 rfl (by decide) (fun c5 => ?_) (fun c5 => ?_)
  ·
    have hok := c5
    obtain ⟨i, hi, rfl⟩ := okP_nat hk h16 c5
    refine j_aload_n (pc' := 13) dX6_unshelve_12 rfl rfl ?_
    refine j_iload_n (pc' := 14) dX6_unshelve_13 rfl rfl ?_
    refine j_bipush (pc' := 16) (v := nI 13) dX6_unshelve_14 rfl rfl ?_
    refine j_cVi (pc' := 19) m_X6_59 (c_X6_of hs (by omega) (by omega)) (by assumption) (by decide) rfl rfl rfl ⟨Nat.le_of_ble_eq_true rfl, Nat.le_of_ble_eq_true rfl⟩ ⟨Nat.zero_le _, Nat.zero_le _⟩ (Nat.le_of_ble_eq_true rfl) dX6_unshelve_16 rfl (fun x1 I1 hq => ?_)
    obtain ⟨rfl, rfl⟩ := hq
    first | refine j_if_neB (tgt := 26) (pc' := 22) dX6_unshelve_19 rfl (by decide) (fun c19 => ?_) (fun c19 => ?_) | refine j_if_neN (tgt := 26) (pc' := 22) (by omega) dX6_unshelve_19 rfl (by decide) (fun c19 => ?_) (fun c19 => ?_) | refine j_if_ne (tgt := 26) (pc' := 22) dX6_unshelve_19 rfl (by decide) (fun c19 => ?_) (fun c19 => ?_)
    ·
      refine j_aload_n (pc' := 27) dX6_unshelve_26 rfl rfl ?_
      refine j_aload_n (pc' := 28) dX6_unshelve_27 rfl rfl ?_
      refine j_getR (pc' := 31) f_X6_7 (by assumption) (by assumption) dX6_unshelve_28 rfl ?_
      refine j_cVv (pc' := 34) m_X6_40 (c_X6_keeps (row := v) hs K1 (fun _ _ => mI_1) hc hc4) (by assumption) (by decide) rfl rfl rfl ⟨Nat.le_of_ble_eq_true rfl, Nat.le_of_ble_eq_true rfl⟩ ⟨Nat.zero_le _, Nat.zero_le _⟩ (Nat.le_of_ble_eq_true rfl) dX6_unshelve_31 rfl (fun I1 hq => ?_)
      subst hq
      refine j_aload_n (pc' := 35) dX6_unshelve_34 rfl rfl ?_
      refine j_iload_n (pc' := 36) dX6_unshelve_35 rfl rfl ?_
      refine j_bipush (pc' := 38) (v := nI 13) dX6_unshelve_36 rfl rfl ?_
      refine j_cVi (pc' := 41) m_X6_59 (c_X6_of hs (by omega) (by omega)) (by assumption) (by decide) rfl rfl rfl ⟨Nat.le_of_ble_eq_true rfl, Nat.le_of_ble_eq_true rfl⟩ ⟨Nat.zero_le _, Nat.zero_le _⟩ (Nat.le_of_ble_eq_true rfl) dX6_unshelve_38 rfl (fun x1 I1 hq => ?_)
      obtain ⟨rfl, rfl⟩ := hq
      refine j_aload_n (pc' := 42) dX6_unshelve_41 rfl rfl ?_
      refine j_getR (pc' := 45) f_X6_7 (by assumption) (by assumption) dX6_unshelve_42 rfl ?_
      refine j_iconst (pc' := 46) (v := nI 1) dX6_unshelve_45 rfl rfl ?_
      refine j_ialdv (pc' := 47) (by assumption) rfl (by omega) (by omega) (by first | (simp (disch := omega) only [jx_upS, jx_upK, jx_upA, mI_0, mI_1, mI_2, mI_3, mI_4, mI_5, mI_6, pk_us, pk_un]; rfl) | rfl) dX6_unshelve_46 rfl ?_
      first | refine j_isubN (pc' := 48) (by omega) dX6_unshelve_47 rfl ?_ | refine j_isub (pc' := 48) dX6_unshelve_47 rfl ?_
      refine j_istore_n (pc' := 49) (lv' := [_, _, _]) dX6_unshelve_48 rfl (by decide) rfl ?_
      refine j_aload_n (pc' := 50) dX6_unshelve_49 rfl rfl ?_
      refine j_iload_n (pc' := 51) dX6_unshelve_50 rfl rfl ?_
      refine j_cVv (pc' := 54) m_X6_63 (c_X6_leavesShelf hs (by omega) (N := N) (by simp (disch := omega) only [pk_us, pk_un, hN]) hNb) (by assumption) (by decide) rfl rfl rfl ⟨Nat.le_of_ble_eq_true rfl, Nat.le_of_ble_eq_true rfl⟩ ⟨Nat.zero_le _, Nat.zero_le _⟩ (Nat.le_of_ble_eq_true rfl) dX6_unshelve_51 rfl (fun I1 hq => ?_)
      subst hq
      refine j_iload_n (pc' := 55) dX6_unshelve_54 rfl rfl ?_
      refine j_reti dX6_unshelve_55 rfl (by first | rfl | exact bi_n _) ?_
      constructor <;> simp (disch := omega) only [fUns, nI_clamp, pk_us, pk_un, sHap_o, hok, c5, c19, reduceIte, Bool.false_eq_true, eq_self, and_true, and_false, true_and, false_and, not_true_eq_false, not_false_eq_true, Bool.and_true, Bool.and_false, Bool.true_and, Bool.false_and, ne_eq]
    ·
      refine j_sipush (pc' := 25) (v := -20002) dX6_unshelve_22 rfl rfl ?_
      refine j_reti dX6_unshelve_25 rfl (by first | rfl | exact bi_n _) ?_
      constructor <;> simp (disch := omega) only [fUns, nI_clamp, pk_us, pk_un, sHap_o, hok, c5, c19, reduceIte, Bool.false_eq_true, eq_self, and_true, and_false, true_and, false_and, not_true_eq_false, not_false_eq_true, Bool.and_true, Bool.and_false, Bool.true_and, Bool.false_and, ne_eq]
  ·
    refine j_sipush (pc' := 11) (v := -20001) dX6_unshelve_8 rfl rfl ?_
    refine j_reti dX6_unshelve_11 rfl (by first | rfl | exact bi_n _) ?_
    constructor <;> simp (disch := omega) only [fUns, nI_clamp, pk_us, pk_un, sHap_o, c5, reduceIte, Bool.false_eq_true, eq_self, and_true, and_false, true_and, false_and, not_true_eq_false, not_false_eq_true, Bool.and_true, Bool.and_false, Bool.true_and, Bool.false_and, ne_eq]

set_option maxRecDepth 100000 in
set_option maxHeartbeats 4000000 in
theorem c_X6_setFlood {E : jx_E} {l : Launch} {n : Nat} {kd : jx_K} {R : jx_R} {I0 : jx_I} {m : Nat} {F v a p o t c : Nat → Int32} {q : Nat} {x y z : Int32} (hs : sMd kd R m) (hc : F 3 = nI q) (hc4 : q ≤ 4) : jx_Ci E l yX6_setFlood cX6_setFlood 5 (some .int) 1 n kd R (mI I0 m F v a p o t c) [.ref m, .int x, .int y, .int z] (fun r I' => r = (if okF x y z = true then nI 10000 * v 5 + nI 100 * v 6 + v 7 else -20001) ∧ I' = if okF x y z = true then mI I0 m (upd F 3 (nI (kpC q))) (upd (upd (upd v 5 x) 6 y) 7 z) a (kpP p q v) o t c else mI I0 m F v a p o t c) := by
  obtain ⟨K0, K1, K2, K3, K4, K5, K6, R0, R1, R2, R4, R6, R10⟩ := id hs
  refine jx_C0.ofJ RX6 [some (.ref m), some (.int x), some (.int y), some (.int z), none] (by decide) rfl rfl (Nat.le_of_ble_eq_true rfl) rfl ?_
  refine j_iload_n (pc' := 1) dX6_setFlood_0 rfl rfl ?_
  refine j_iconst (pc' := 2) (v := nI 1) dX6_setFlood_1 rfl rfl ?_
  refine j_bipush (pc' := 4) (v := nI 60) dX6_setFlood_2 rfl rfl ?_
  refine j_cSi (pc' := 7) m_X6_32 (c_X6_in E l n kd R _ _ _ _) rfl rfl ⟨Nat.le_of_ble_eq_true rfl, Nat.le_of_ble_eq_true rfl⟩ ⟨Nat.zero_le _, Nat.zero_le _⟩ (Nat.le_of_ble_eq_true rfl) dX6_setFlood_4 rfl (fun x1 I1 hq => ?_)
  obtain ⟨rfl, rfl⟩ := hq
  first | refine j_if_eqB (tgt := 29) (pc' := 10) dX6_setFlood_7 rfl (by decide) (fun c7 => ?_) (fun c7 => ?_) | refine j_if_eqN (tgt := 29) (pc' := 10) (by omega) dX6_setFlood_7 rfl (by decide) (fun c7 => ?_) (fun c7 => ?_) | refine j_if_eq (tgt := 29) (pc' := 10) dX6_setFlood_7 rfl (by decide) (fun c7 => ?_) (fun c7 => ?_)
  ·
    refine j_sipush (pc' := 32) (v := -20001) dX6_setFlood_29 rfl rfl ?_
    refine j_reti dX6_setFlood_32 rfl (by first | rfl | exact bi_n _) ?_
    constructor <;> simp (disch := omega) only [okF, nI_clamp, pk_us, pk_un, sHap_o, c7, reduceIte, Bool.false_eq_true, eq_self, and_true, and_false, true_and, false_and, not_true_eq_false, not_false_eq_true, Bool.and_true, Bool.and_false, Bool.true_and, Bool.false_and, ne_eq]
  ·
    refine j_iload_n (pc' := 11) dX6_setFlood_10 rfl rfl ?_
    refine j_iconst (pc' := 12) (v := nI 1) dX6_setFlood_11 rfl rfl ?_
    refine j_bipush (pc' := 14) (v := nI 50) dX6_setFlood_12 rfl rfl ?_
    refine j_cSi (pc' := 17) m_X6_32 (c_X6_in E l n kd R _ _ _ _) rfl rfl ⟨Nat.le_of_ble_eq_true rfl, Nat.le_of_ble_eq_true rfl⟩ ⟨Nat.zero_le _, Nat.zero_le _⟩ (Nat.le_of_ble_eq_true rfl) dX6_setFlood_14 rfl (fun x1 I1 hq => ?_)
    obtain ⟨rfl, rfl⟩ := hq
    first | refine j_if_eqB (tgt := 29) (pc' := 20) dX6_setFlood_17 rfl (by decide) (fun c17 => ?_) (fun c17 => ?_) | refine j_if_eqN (tgt := 29) (pc' := 20) (by omega) dX6_setFlood_17 rfl (by decide) (fun c17 => ?_) (fun c17 => ?_) | refine j_if_eq (tgt := 29) (pc' := 20) dX6_setFlood_17 rfl (by decide) (fun c17 => ?_) (fun c17 => ?_)
    ·
      refine j_sipush (pc' := 32) (v := -20001) dX6_setFlood_29 rfl rfl ?_
      refine j_reti dX6_setFlood_32 rfl (by first | rfl | exact bi_n _) ?_
      constructor <;> simp (disch := omega) only [okF, nI_clamp, pk_us, pk_un, sHap_o, c7, c17, reduceIte, Bool.false_eq_true, eq_self, and_true, and_false, true_and, false_and, not_true_eq_false, not_false_eq_true, Bool.and_true, Bool.and_false, Bool.true_and, Bool.false_and, ne_eq]
    ·
      refine j_iload_n (pc' := 21) dX6_setFlood_20 rfl rfl ?_
      refine j_iconst (pc' := 22) (v := nI 0) dX6_setFlood_21 rfl rfl ?_
      refine j_iload_n (pc' := 23) dX6_setFlood_22 rfl rfl ?_
      refine j_cSi (pc' := 26) m_X6_32 (c_X6_in E l n kd R _ _ _ _) rfl rfl ⟨Nat.le_of_ble_eq_true rfl, Nat.le_of_ble_eq_true rfl⟩ ⟨Nat.zero_le _, Nat.zero_le _⟩ (Nat.le_of_ble_eq_true rfl) dX6_setFlood_23 rfl (fun x1 I1 hq => ?_)
      obtain ⟨rfl, rfl⟩ := hq
      first | refine j_if_neB (tgt := 33) (pc' := 29) dX6_setFlood_26 rfl (by decide) (fun c26 => ?_) (fun c26 => ?_) | refine j_if_neN (tgt := 33) (pc' := 29) (by omega) dX6_setFlood_26 rfl (by decide) (fun c26 => ?_) (fun c26 => ?_) | refine j_if_ne (tgt := 33) (pc' := 29) dX6_setFlood_26 rfl (by decide) (fun c26 => ?_) (fun c26 => ?_)
      ·
        refine j_aload_n (pc' := 34) dX6_setFlood_33 rfl rfl ?_
        refine j_aload_n (pc' := 35) dX6_setFlood_34 rfl rfl ?_
        refine j_getR (pc' := 38) f_X6_7 (by assumption) (by assumption) dX6_setFlood_35 rfl ?_
        refine j_cVv (pc' := 41) m_X6_40 (c_X6_keeps (row := v) hs K1 (fun _ _ => mI_1) hc hc4) (by assumption) (by decide) rfl rfl rfl ⟨Nat.le_of_ble_eq_true rfl, Nat.le_of_ble_eq_true rfl⟩ ⟨Nat.zero_le _, Nat.zero_le _⟩ (Nat.le_of_ble_eq_true rfl) dX6_setFlood_38 rfl (fun I1 hq => ?_)
        subst hq
        refine j_sipush (pc' := 44) (v := nI 10000) dX6_setFlood_41 rfl rfl ?_
        refine j_aload_n (pc' := 45) dX6_setFlood_44 rfl rfl ?_
        refine j_getR (pc' := 48) f_X6_7 (by assumption) (by assumption) dX6_setFlood_45 rfl ?_
        refine j_iconst (pc' := 49) (v := nI 5) dX6_setFlood_48 rfl rfl ?_
        refine j_ialdv (pc' := 50) (by assumption) rfl (by omega) (by omega) (by first | (simp (disch := omega) only [jx_upS, jx_upK, jx_upA, mI_0, mI_1, mI_2, mI_3, mI_4, mI_5, mI_6, pk_us, pk_un]; rfl) | rfl) dX6_setFlood_49 rfl ?_
        refine j_imul (pc' := 51) dX6_setFlood_50 rfl ?_
        refine j_bipush (pc' := 53) (v := nI 100) dX6_setFlood_51 rfl rfl ?_
        refine j_aload_n (pc' := 54) dX6_setFlood_53 rfl rfl ?_
        refine j_getR (pc' := 57) f_X6_7 (by assumption) (by assumption) dX6_setFlood_54 rfl ?_
        refine j_bipush (pc' := 59) (v := nI 6) dX6_setFlood_57 rfl rfl ?_
        refine j_ialdv (pc' := 60) (by assumption) rfl (by omega) (by omega) (by first | (simp (disch := omega) only [jx_upS, jx_upK, jx_upA, mI_0, mI_1, mI_2, mI_3, mI_4, mI_5, mI_6, pk_us, pk_un]; rfl) | rfl) dX6_setFlood_59 rfl ?_
        refine j_imul (pc' := 61) dX6_setFlood_60 rfl ?_
        refine j_iadd (pc' := 62) dX6_setFlood_61 rfl ?_
        refine j_aload_n (pc' := 63) dX6_setFlood_62 rfl rfl ?_
        refine j_getR (pc' := 66) f_X6_7 (by assumption) (by assumption) dX6_setFlood_63 rfl ?_
        refine j_bipush (pc' := 68) (v := nI 7) dX6_setFlood_66 rfl rfl ?_
        refine j_ialdv (pc' := 69) (by assumption) rfl (by omega) (by omega) (by first | (simp (disch := omega) only [jx_upS, jx_upK, jx_upA, mI_0, mI_1, mI_2, mI_3, mI_4, mI_5, mI_6, pk_us, pk_un]; rfl) | rfl) dX6_setFlood_68 rfl ?_
        refine j_iadd (pc' := 70) dX6_setFlood_69 rfl ?_
        refine j_istore (pc' := 72) (lv' := [_, _, _, _, _]) dX6_setFlood_70 rfl (by decide) rfl ?_
        refine j_aload_n (pc' := 73) dX6_setFlood_72 rfl rfl ?_
        refine j_getR (pc' := 76) f_X6_7 (by assumption) (by assumption) dX6_setFlood_73 rfl ?_
        refine j_iconst (pc' := 77) (v := nI 5) dX6_setFlood_76 rfl rfl ?_
        refine j_iload_n (pc' := 78) dX6_setFlood_77 rfl rfl ?_
        refine j_iast (pc' := 79) (by assumption) rfl (by omega) (by omega) dX6_setFlood_78 rfl ?_
        first | refine j_eqI mW_1 ?_ | refine j_eqI mW_2 ?_ | refine j_eqI mW_3 ?_ | refine j_eqI mW_4 ?_ | refine j_eqI mW_5 ?_ | refine j_eqI mW_6 ?_
        refine j_aload_n (pc' := 80) dX6_setFlood_79 rfl rfl ?_
        refine j_getR (pc' := 83) f_X6_7 (by assumption) (by assumption) dX6_setFlood_80 rfl ?_
        refine j_bipush (pc' := 85) (v := nI 6) dX6_setFlood_83 rfl rfl ?_
        refine j_iload_n (pc' := 86) dX6_setFlood_85 rfl rfl ?_
        refine j_iast (pc' := 87) (by assumption) rfl (by omega) (by omega) dX6_setFlood_86 rfl ?_
        first | refine j_eqI mW_1 ?_ | refine j_eqI mW_2 ?_ | refine j_eqI mW_3 ?_ | refine j_eqI mW_4 ?_ | refine j_eqI mW_5 ?_ | refine j_eqI mW_6 ?_
        refine j_aload_n (pc' := 88) dX6_setFlood_87 rfl rfl ?_
        refine j_getR (pc' := 91) f_X6_7 (by assumption) (by assumption) dX6_setFlood_88 rfl ?_
        refine j_bipush (pc' := 93) (v := nI 7) dX6_setFlood_91 rfl rfl ?_
        refine j_iload_n (pc' := 94) dX6_setFlood_93 rfl rfl ?_
        refine j_iast (pc' := 95) (by assumption) rfl (by omega) (by omega) dX6_setFlood_94 rfl ?_
        first | refine j_eqI mW_1 ?_ | refine j_eqI mW_2 ?_ | refine j_eqI mW_3 ?_ | refine j_eqI mW_4 ?_ | refine j_eqI mW_5 ?_ | refine j_eqI mW_6 ?_
        refine j_iload (pc' := 97) dX6_setFlood_95 rfl rfl ?_
        refine j_reti dX6_setFlood_97 rfl (by first | rfl | exact bi_n _) ?_
        constructor <;> simp (disch := omega) only [okF, nI_clamp, pk_us, pk_un, sHap_o, c7, c17, c26, reduceIte, Bool.false_eq_true, eq_self, and_true, and_false, true_and, false_and, not_true_eq_false, not_false_eq_true, Bool.and_true, Bool.and_false, Bool.true_and, Bool.false_and, ne_eq]
      ·
        refine j_sipush (pc' := 32) (v := -20001) dX6_setFlood_29 rfl rfl ?_
        refine j_reti dX6_setFlood_32 rfl (by first | rfl | exact bi_n _) ?_
        constructor <;> simp (disch := omega) only [okF, nI_clamp, pk_us, pk_un, sHap_o, c7, c17, c26, reduceIte, Bool.false_eq_true, eq_self, and_true, and_false, true_and, false_and, not_true_eq_false, not_false_eq_true, Bool.and_true, Bool.and_false, Bool.true_and, Bool.false_and, ne_eq]

set_option maxRecDepth 100000 in
set_option maxHeartbeats 4000000 in
theorem c_X6_isIn (E : jx_E) (l : Launch) (n : Nat) (kd : jx_K) (R : jx_R) (I : jx_I) (s x : Int32)  : jx_Ci E l yX6_isIn cX6_isIn 2 (some .boolean) 2 n kd R I [.int s, .int x] (fun r I' => r = bi (okS s x) ∧ I' = I) := by
  refine jx_C0.ofJ RX6 [some (.int s), some (.int x)] (by decide) rfl rfl (Nat.le_of_ble_eq_true rfl) rfl ?_
  refine j_iload_n (pc' := 1) dX6_isIn_0 rfl rfl ?_
  by_cases t0 : s = nI 0
  ·
    refine j_tableIn (tgt := 40) (off := 39) dX6_isIn_1 (by rw [t0]; decide) (by rw [t0]; decide) (by rw [t0]; rfl) (by decide) ?_
    refine j_iload_n (pc' := 41) dX6_isIn_40 rfl rfl ?_
    refine j_iconst (pc' := 42) (v := nI 0) dX6_isIn_41 rfl rfl ?_
    refine j_iconst (pc' := 43) (v := nI 1) dX6_isIn_42 rfl rfl ?_
    refine j_cSi (pc' := 46) m_X6_32 (c_X6_in E l n kd R _ _ _ _) rfl rfl ⟨Nat.le_of_ble_eq_true rfl, Nat.le_of_ble_eq_true rfl⟩ ⟨Nat.zero_le _, Nat.zero_le _⟩ (Nat.le_of_ble_eq_true rfl) dX6_isIn_43 rfl (fun x1 I1 hq => ?_)
    obtain ⟨rfl, rfl⟩ := hq
    refine j_reti dX6_isIn_46 rfl (by first | rfl | exact bi_n _) ?_
    refine ⟨?_, rfl⟩
    unfold okS
    first | rw [if_pos t0] | rw [if_neg t0] | skip
    
  ·
    by_cases t1 : s = nI 1
    ·
      refine j_tableIn (tgt := 47) (off := 46) dX6_isIn_1 (by rw [t1]; decide) (by rw [t1]; decide) (by rw [t1]; rfl) (by decide) ?_
      refine j_iload_n (pc' := 48) dX6_isIn_47 rfl rfl ?_
      refine j_cSi (pc' := 51) m_X6_36 (c_X6_isValue E l n kd R _ _) rfl rfl ⟨Nat.le_of_ble_eq_true rfl, Nat.le_of_ble_eq_true rfl⟩ ⟨Nat.zero_le _, Nat.zero_le _⟩ (Nat.le_of_ble_eq_true rfl) dX6_isIn_48 rfl (fun x1 I1 hq => ?_)
      obtain ⟨rfl, rfl⟩ := hq
      refine j_reti dX6_isIn_51 rfl (by first | rfl | exact bi_n _) ?_
      refine ⟨?_, rfl⟩
      unfold okS
      first | rw [if_pos t0] | rw [if_neg t0] | skip
      first | rw [if_pos t1] | rw [if_neg t1] | skip
      
    ·
      by_cases t2 : s = nI 2
      ·
        refine j_tableIn (tgt := 52) (off := 51) dX6_isIn_1 (by rw [t2]; decide) (by rw [t2]; decide) (by rw [t2]; rfl) (by decide) ?_
        refine j_iload_n (pc' := 53) dX6_isIn_52 rfl rfl ?_
        refine j_iconst (pc' := 54) (v := nI 0) dX6_isIn_53 rfl rfl ?_
        refine j_sipush (pc' := 57) (v := nI 1000) dX6_isIn_54 rfl rfl ?_
        refine j_cSi (pc' := 60) m_X6_32 (c_X6_in E l n kd R _ _ _ _) rfl rfl ⟨Nat.le_of_ble_eq_true rfl, Nat.le_of_ble_eq_true rfl⟩ ⟨Nat.zero_le _, Nat.zero_le _⟩ (Nat.le_of_ble_eq_true rfl) dX6_isIn_57 rfl (fun x1 I1 hq => ?_)
        obtain ⟨rfl, rfl⟩ := hq
        refine j_reti dX6_isIn_60 rfl (by first | rfl | exact bi_n _) ?_
        refine ⟨?_, rfl⟩
        unfold okS
        first | rw [if_pos t0] | rw [if_neg t0] | skip
        first | rw [if_pos t1] | rw [if_neg t1] | skip
        first | rw [if_pos t2] | rw [if_neg t2] | skip
        
      ·
        by_cases t3 : s = nI 3
        ·
          refine j_tableIn (tgt := 61) (off := 60) dX6_isIn_1 (by rw [t3]; decide) (by rw [t3]; decide) (by rw [t3]; rfl) (by decide) ?_
          refine j_iload_n (pc' := 62) dX6_isIn_61 rfl rfl ?_
          refine j_iconst (pc' := 63) (v := nI 0) dX6_isIn_62 rfl rfl ?_
          refine j_bipush (pc' := 65) (v := nI 20) dX6_isIn_63 rfl rfl ?_
          refine j_cSi (pc' := 68) m_X6_32 (c_X6_in E l n kd R _ _ _ _) rfl rfl ⟨Nat.le_of_ble_eq_true rfl, Nat.le_of_ble_eq_true rfl⟩ ⟨Nat.zero_le _, Nat.zero_le _⟩ (Nat.le_of_ble_eq_true rfl) dX6_isIn_65 rfl (fun x1 I1 hq => ?_)
          obtain ⟨rfl, rfl⟩ := hq
          refine j_reti dX6_isIn_68 rfl (by first | rfl | exact bi_n _) ?_
          refine ⟨?_, rfl⟩
          unfold okS
          first | rw [if_pos t0] | rw [if_neg t0] | skip
          first | rw [if_pos t1] | rw [if_neg t1] | skip
          first | rw [if_pos t2] | rw [if_neg t2] | skip
          first | rw [if_pos t3] | rw [if_neg t3] | skip
          
        ·
          by_cases t4 : s = nI 4
          ·
            refine j_tableIn (tgt := 69) (off := 68) dX6_isIn_1 (by rw [t4]; decide) (by rw [t4]; decide) (by rw [t4]; rfl) (by decide) ?_
            refine j_iload_n (pc' := 70) dX6_isIn_69 rfl rfl ?_
            refine j_iconst (pc' := 71) (v := nI 0) dX6_isIn_70 rfl rfl ?_
            refine j_bipush (pc' := 73) (v := nI 20) dX6_isIn_71 rfl rfl ?_
            refine j_cSi (pc' := 76) m_X6_32 (c_X6_in E l n kd R _ _ _ _) rfl rfl ⟨Nat.le_of_ble_eq_true rfl, Nat.le_of_ble_eq_true rfl⟩ ⟨Nat.zero_le _, Nat.zero_le _⟩ (Nat.le_of_ble_eq_true rfl) dX6_isIn_73 rfl (fun x1 I1 hq => ?_)
            obtain ⟨rfl, rfl⟩ := hq
            refine j_reti dX6_isIn_76 rfl (by first | rfl | exact bi_n _) ?_
            refine ⟨?_, rfl⟩
            unfold okS
            first | rw [if_pos t0] | rw [if_neg t0] | skip
            first | rw [if_pos t1] | rw [if_neg t1] | skip
            first | rw [if_pos t2] | rw [if_neg t2] | skip
            first | rw [if_pos t3] | rw [if_neg t3] | skip
            first | rw [if_pos t4] | rw [if_neg t4] | skip
            
          ·
            by_cases t5 : s = nI 5
            ·
              refine j_tableIn (tgt := 77) (off := 76) dX6_isIn_1 (by rw [t5]; decide) (by rw [t5]; decide) (by rw [t5]; rfl) (by decide) ?_
              refine j_iload_n (pc' := 78) dX6_isIn_77 rfl rfl ?_
              refine j_iconst (pc' := 79) (v := nI 1) dX6_isIn_78 rfl rfl ?_
              refine j_iconst (pc' := 80) (v := nI 4) dX6_isIn_79 rfl rfl ?_
              refine j_cSi (pc' := 83) m_X6_32 (c_X6_in E l n kd R _ _ _ _) rfl rfl ⟨Nat.le_of_ble_eq_true rfl, Nat.le_of_ble_eq_true rfl⟩ ⟨Nat.zero_le _, Nat.zero_le _⟩ (Nat.le_of_ble_eq_true rfl) dX6_isIn_80 rfl (fun x1 I1 hq => ?_)
              obtain ⟨rfl, rfl⟩ := hq
              refine j_reti dX6_isIn_83 rfl (by first | rfl | exact bi_n _) ?_
              refine ⟨?_, rfl⟩
              unfold okS
              first | rw [if_pos t0] | rw [if_neg t0] | skip
              first | rw [if_pos t1] | rw [if_neg t1] | skip
              first | rw [if_pos t2] | rw [if_neg t2] | skip
              first | rw [if_pos t3] | rw [if_neg t3] | skip
              first | rw [if_pos t4] | rw [if_neg t4] | skip
              first | rw [if_pos t5] | rw [if_neg t5] | skip
              
            ·
              refine j_tableOut (tgt := 84) dX6_isIn_1 (by
                have e0 : (s).toInt ≠ 0 := fun z => t0 (Int32.toInt_inj.mp (z.trans (by decide)))
                have e1 : (s).toInt ≠ 1 := fun z => t1 (Int32.toInt_inj.mp (z.trans (by decide)))
                have e2 : (s).toInt ≠ 2 := fun z => t2 (Int32.toInt_inj.mp (z.trans (by decide)))
                have e3 : (s).toInt ≠ 3 := fun z => t3 (Int32.toInt_inj.mp (z.trans (by decide)))
                have e4 : (s).toInt ≠ 4 := fun z => t4 (Int32.toInt_inj.mp (z.trans (by decide)))
                have e5 : (s).toInt ≠ 5 := fun z => t5 (Int32.toInt_inj.mp (z.trans (by decide)))
                omega) (by decide) ?_
              refine j_iload_n (pc' := 85) dX6_isIn_84 rfl rfl ?_
              refine j_bipush (pc' := 87) (v := nI 6) dX6_isIn_85 rfl rfl ?_
              first | refine j_icmp_neN (tgt := 104) (pc' := 90) (by omega) (by omega) dX6_isIn_87 rfl (by decide) (fun c87 => ?_) (fun c87 => ?_) | refine j_icmp_ne (tgt := 104) (pc' := 90) dX6_isIn_87 rfl (by decide) (fun c87 => ?_) (fun c87 => ?_)
              ·
                refine j_iconst (pc' := 105) (v := nI 0) dX6_isIn_104 rfl rfl ?_
                refine j_reti dX6_isIn_105 rfl (by first | rfl | exact bi_n _) ?_
                refine ⟨?_, rfl⟩
                unfold okS
                first | rw [if_pos t0] | rw [if_neg t0] | skip
                first | rw [if_pos t1] | rw [if_neg t1] | skip
                first | rw [if_pos t2] | rw [if_neg t2] | skip
                first | rw [if_pos t3] | rw [if_neg t3] | skip
                first | rw [if_pos t4] | rw [if_neg t4] | skip
                first | rw [if_pos t5] | rw [if_neg t5] | skip
                first | (rw [if_neg c87]; rfl) | (rw [if_pos c87]; first | (rw [c97]; rfl) | exact (bi_F c97))
              ·
                refine j_iload_n (pc' := 91) dX6_isIn_90 rfl rfl ?_
                refine j_iconst (pc' := 92) (v := nI 0) dX6_isIn_91 rfl rfl ?_
                refine j_bipush (pc' := 94) (v := nI 15) dX6_isIn_92 rfl rfl ?_
                refine j_cSi (pc' := 97) m_X6_32 (c_X6_in E l n kd R _ _ _ _) rfl rfl ⟨Nat.le_of_ble_eq_true rfl, Nat.le_of_ble_eq_true rfl⟩ ⟨Nat.zero_le _, Nat.zero_le _⟩ (Nat.le_of_ble_eq_true rfl) dX6_isIn_94 rfl (fun x1 I1 hq => ?_)
                obtain ⟨rfl, rfl⟩ := hq
                first | refine j_if_eqB (tgt := 104) (pc' := 100) dX6_isIn_97 rfl (by decide) (fun c97 => ?_) (fun c97 => ?_) | refine j_if_eqN (tgt := 104) (pc' := 100) (by omega) dX6_isIn_97 rfl (by decide) (fun c97 => ?_) (fun c97 => ?_) | refine j_if_eq (tgt := 104) (pc' := 100) dX6_isIn_97 rfl (by decide) (fun c97 => ?_) (fun c97 => ?_)
                ·
                  refine j_iconst (pc' := 105) (v := nI 0) dX6_isIn_104 rfl rfl ?_
                  refine j_reti dX6_isIn_105 rfl (by first | rfl | exact bi_n _) ?_
                  refine ⟨?_, rfl⟩
                  unfold okS
                  first | rw [if_pos t0] | rw [if_neg t0] | skip
                  first | rw [if_pos t1] | rw [if_neg t1] | skip
                  first | rw [if_pos t2] | rw [if_neg t2] | skip
                  first | rw [if_pos t3] | rw [if_neg t3] | skip
                  first | rw [if_pos t4] | rw [if_neg t4] | skip
                  first | rw [if_pos t5] | rw [if_neg t5] | skip
                  first | (rw [if_neg c87]; rfl) | (rw [if_pos c87]; first | (rw [c97]; rfl) | exact (bi_F c97))
                ·
                  refine j_iconst (pc' := 101) (v := nI 1) dX6_isIn_100 rfl rfl ?_
                  refine j_goto (tgt := 105) dX6_isIn_101 (by decide) ?_
                  refine j_reti dX6_isIn_105 rfl (by first | rfl | exact bi_n _) ?_
                  refine ⟨?_, rfl⟩
                  unfold okS
                  first | rw [if_pos t0] | rw [if_neg t0] | skip
                  first | rw [if_pos t1] | rw [if_neg t1] | skip
                  first | rw [if_pos t2] | rw [if_neg t2] | skip
                  first | rw [if_pos t3] | rw [if_neg t3] | skip
                  first | rw [if_pos t4] | rw [if_neg t4] | skip
                  first | rw [if_pos t5] | rw [if_neg t5] | skip
                  first | (rw [if_neg c87]; rfl) | (rw [if_pos c87]; first | (rw [c97]; rfl) | exact (bi_F c97))

def fSet (v : Nat → Int32) (x s y : Int32) : Nat → Int32 :=
  if upd v (176 + 56 * x.toNatClampNeg + s.toNatClampNeg) y (176 + 56 * x.toNatClampNeg + 5) = nI 1 then
    if upd v (176 + 56 * x.toNatClampNeg + s.toNatClampNeg) y (176 + 56 * x.toNatClampNeg + 13) ≤ 0 then upd v (176 + 56 * x.toNatClampNeg + s.toNatClampNeg) y
    else sHap (upd (upd v (176 + 56 * x.toNatClampNeg + s.toNatClampNeg) y) (176 + 56 * x.toNatClampNeg + 13) (nI 0)) (nI 5) x
  else upd v (176 + 56 * x.toNatClampNeg + s.toNatClampNeg) y
theorem okS_nat {s x : Int32} (h : okS s x = true) : ∃ j, j < 7 ∧ s = nI j := by
  unfold okS at h
  by_cases t0 : s = nI 0
  · exact ⟨0, by omega, t0⟩
  by_cases t1 : s = nI 1
  · exact ⟨1, by omega, t1⟩
  by_cases t2 : s = nI 2
  · exact ⟨2, by omega, t2⟩
  by_cases t3 : s = nI 3
  · exact ⟨3, by omega, t3⟩
  by_cases t4 : s = nI 4
  · exact ⟨4, by omega, t4⟩
  by_cases t5 : s = nI 5
  · exact ⟨5, by omega, t5⟩
  by_cases t6 : s = nI 6
  · exact ⟨6, by omega, t6⟩
  rw [if_neg t0, if_neg t1, if_neg t2, if_neg t3, if_neg t4, if_neg t5, if_neg t6] at h
  cases h

set_option maxRecDepth 100000 in
set_option maxHeartbeats 4000000 in
theorem c_X6_set {E : jx_E} {l : Launch} {n : Nat} {kd : jx_K} {R : jx_R} {I0 : jx_I} {m : Nat} {F v a p o t c : Nat → Int32} {k q N : Nat} {x s y : Int32} (hs : sMd kd R m) (hk : v 0 = nI k) (h16 : k ≤ 16) (hc : F 3 = nI q) (hc4 : q ≤ 4) (hN : v 9 = nI N) (hNb : N < 2147483000) : jx_Ci E l yX6_set cX6_set 5 (some .int) 3 n kd R (mI I0 m F v a p o t c) [.ref m, .int x, .int s, .int y] (fun r I' => r = (if okP v x = true ∧ okS s y = true then v (176 + 56 * x.toNatClampNeg + s.toNatClampNeg) else -20001) ∧ I' = if okP v x = true ∧ okS s y = true then mI I0 m (upd F 3 (nI (kpC q))) (fSet v x s y) a (kpP p q v) o t c else mI I0 m F v a p o t c) := by
  obtain ⟨K0, K1, K2, K3, K4, K5, K6, R0, R1, R2, R4, R6, R10⟩ := id hs
  refine jx_C0.ofJ RX6 [some (.ref m), some (.int x), some (.int s), some (.int y), none] (by decide) rfl rfl (Nat.le_of_ble_eq_true rfl) rfl ?_
  refine j_aload_n (pc' := 1) dX6_set_0 rfl rfl ?_
  refine j_iload_n (pc' := 2) dX6_set_1 rfl rfl ?_
  refine j_cVi (pc' := 5) m_X6_52 (c_X6_isPoint hs) (by assumption) (by decide) rfl rfl rfl ⟨Nat.le_of_ble_eq_true rfl, Nat.le_of_ble_eq_true rfl⟩ ⟨Nat.zero_le _, Nat.zero_le _⟩ (Nat.le_of_ble_eq_true rfl) dX6_set_2 rfl (fun x1 I1 hq => ?_)
  obtain ⟨rfl, rfl⟩ := hq
  first | refine j_if_eqB (tgt := 16) (pc' := 8) dX6_set_5 rfl (by decide) (fun c5 => ?_) (fun c5 => ?_) | refine j_if_eqN (tgt := 16) (pc' := 8) (by omega) dX6_set_5 rfl (by decide) (fun c5 => ?_) (fun c5 => ?_) | refine j_if_eq (tgt := 16) (pc' := 8) dX6_set_5 rfl (by decide) (fun c5 => ?_) (fun c5 => ?_)
  ·
    refine j_sipush (pc' := 19) (v := -20001) dX6_set_16 rfl rfl ?_
    refine j_reti dX6_set_19 rfl (by first | rfl | exact bi_n _) ?_
    constructor <;> simp (disch := omega) only [fSet, nI_clamp, c5, reduceIte, Bool.false_eq_true, eq_self, and_true, and_false, true_and, false_and, not_true_eq_false, not_false_eq_true, Bool.and_true, Bool.and_false, Bool.true_and, Bool.false_and, ne_eq]
  ·
    refine j_iload_n (pc' := 9) dX6_set_8 rfl rfl ?_
    refine j_iload_n (pc' := 10) dX6_set_9 rfl rfl ?_
    refine j_cSi (pc' := 13) m_X6_55 (c_X6_isIn E l n kd R _ _ _) rfl rfl ⟨Nat.le_of_ble_eq_true rfl, Nat.le_of_ble_eq_true rfl⟩ ⟨Nat.zero_le _, Nat.zero_le _⟩ (Nat.le_of_ble_eq_true rfl) dX6_set_10 rfl (fun x1 I1 hq => ?_)
    obtain ⟨rfl, rfl⟩ := hq
    first | refine j_if_neB (tgt := 20) (pc' := 16) dX6_set_13 rfl (by decide) (fun c13 => ?_) (fun c13 => ?_) | refine j_if_neN (tgt := 20) (pc' := 16) (by omega) dX6_set_13 rfl (by decide) (fun c13 => ?_) (fun c13 => ?_) | refine j_if_ne (tgt := 20) (pc' := 16) dX6_set_13 rfl (by decide) (fun c13 => ?_) (fun c13 => ?_)
    ·
      have hok := c5
      have hos := c13
      obtain ⟨i, hi, rfl⟩ := okP_nat hk h16 c5
      obtain ⟨j, hj, rfl⟩ := okS_nat c13
      refine j_aload_n (pc' := 21) dX6_set_20 rfl rfl ?_
      refine j_aload_n (pc' := 22) dX6_set_21 rfl rfl ?_
      refine j_getR (pc' := 25) f_X6_7 (by assumption) (by assumption) dX6_set_22 rfl ?_
      refine j_cVv (pc' := 28) m_X6_40 (c_X6_keeps (row := v) hs K1 (fun _ _ => mI_1) hc hc4) (by assumption) (by decide) rfl rfl rfl ⟨Nat.le_of_ble_eq_true rfl, Nat.le_of_ble_eq_true rfl⟩ ⟨Nat.zero_le _, Nat.zero_le _⟩ (Nat.le_of_ble_eq_true rfl) dX6_set_25 rfl (fun I1 hq => ?_)
      subst hq
      refine j_aload_n (pc' := 29) dX6_set_28 rfl rfl ?_
      refine j_iload_n (pc' := 30) dX6_set_29 rfl rfl ?_
      refine j_iload_n (pc' := 31) dX6_set_30 rfl rfl ?_
      refine j_cVi (pc' := 34) m_X6_59 (c_X6_of hs (by omega) (by omega)) (by assumption) (by decide) rfl rfl rfl ⟨Nat.le_of_ble_eq_true rfl, Nat.le_of_ble_eq_true rfl⟩ ⟨Nat.zero_le _, Nat.zero_le _⟩ (Nat.le_of_ble_eq_true rfl) dX6_set_31 rfl (fun x1 I1 hq => ?_)
      obtain ⟨rfl, rfl⟩ := hq
      refine j_istore (pc' := 36) (lv' := [_, _, _, _, _]) dX6_set_34 rfl (by decide) rfl ?_
      refine j_aload_n (pc' := 37) dX6_set_36 rfl rfl ?_
      refine j_iload_n (pc' := 38) dX6_set_37 rfl rfl ?_
      refine j_iload_n (pc' := 39) dX6_set_38 rfl rfl ?_
      refine j_iload_n (pc' := 40) dX6_set_39 rfl rfl ?_
      refine j_cVv (pc' := 43) m_X6_44 (c_X6_puts hs (by omega) (by omega)) (by assumption) (by decide) rfl rfl rfl ⟨Nat.le_of_ble_eq_true rfl, Nat.le_of_ble_eq_true rfl⟩ ⟨Nat.zero_le _, Nat.zero_le _⟩ (Nat.le_of_ble_eq_true rfl) dX6_set_40 rfl (fun I1 hq => ?_)
      subst hq
      refine j_aload_n (pc' := 44) dX6_set_43 rfl rfl ?_
      refine j_iload_n (pc' := 45) dX6_set_44 rfl rfl ?_
      refine j_iconst (pc' := 46) (v := nI 5) dX6_set_45 rfl rfl ?_
      refine j_cVi (pc' := 49) m_X6_59 (c_X6_of hs (by omega) (by omega)) (by assumption) (by decide) rfl rfl rfl ⟨Nat.le_of_ble_eq_true rfl, Nat.le_of_ble_eq_true rfl⟩ ⟨Nat.zero_le _, Nat.zero_le _⟩ (Nat.le_of_ble_eq_true rfl) dX6_set_46 rfl (fun x1 I1 hq => ?_)
      obtain ⟨rfl, rfl⟩ := hq
      refine j_iconst (pc' := 50) (v := nI 1) dX6_set_49 rfl rfl ?_
      first | refine j_icmp_neN (tgt := 68) (pc' := 53) (by omega) (by omega) dX6_set_50 rfl (by decide) (fun c50 => ?_) (fun c50 => ?_) | refine j_icmp_ne (tgt := 68) (pc' := 53) dX6_set_50 rfl (by decide) (fun c50 => ?_) (fun c50 => ?_)
      ·
        refine j_iload (pc' := 70) dX6_set_68 rfl rfl ?_
        refine j_reti dX6_set_70 rfl (by first | rfl | exact bi_n _) ?_
        constructor <;> simp (disch := omega) only [fSet, nI_clamp, hok, hos, c5, c13, c50, reduceIte, Bool.false_eq_true, eq_self, and_true, and_false, true_and, false_and, not_true_eq_false, not_false_eq_true, Bool.and_true, Bool.and_false, Bool.true_and, Bool.false_and, ne_eq]
      ·
        refine j_aload_n (pc' := 54) dX6_set_53 rfl rfl ?_
        refine j_iload_n (pc' := 55) dX6_set_54 rfl rfl ?_
        refine j_bipush (pc' := 57) (v := nI 13) dX6_set_55 rfl rfl ?_
        refine j_cVi (pc' := 60) m_X6_59 (c_X6_of hs (by omega) (by omega)) (by assumption) (by decide) rfl rfl rfl ⟨Nat.le_of_ble_eq_true rfl, Nat.le_of_ble_eq_true rfl⟩ ⟨Nat.zero_le _, Nat.zero_le _⟩ (Nat.le_of_ble_eq_true rfl) dX6_set_57 rfl (fun x1 I1 hq => ?_)
        obtain ⟨rfl, rfl⟩ := hq
        first | refine j_if_leN (tgt := 68) (pc' := 63) (by omega) dX6_set_60 rfl (by decide) (fun c60 => ?_) (fun c60 => ?_) | refine j_if_le (tgt := 68) (pc' := 63) dX6_set_60 rfl (by decide) (fun c60 => ?_) (fun c60 => ?_)
        ·
          refine j_iload (pc' := 70) dX6_set_68 rfl rfl ?_
          refine j_reti dX6_set_70 rfl (by first | rfl | exact bi_n _) ?_
          constructor <;> simp (disch := omega) only [fSet, nI_clamp, hok, hos, c5, c13, c50, c60, reduceIte, Bool.false_eq_true, eq_self, and_true, and_false, true_and, false_and, not_true_eq_false, not_false_eq_true, Bool.and_true, Bool.and_false, Bool.true_and, Bool.false_and, ne_eq]
        ·
          refine j_aload_n (pc' := 64) dX6_set_63 rfl rfl ?_
          refine j_iload_n (pc' := 65) dX6_set_64 rfl rfl ?_
          refine j_cVv (pc' := 68) m_X6_63 (c_X6_leavesShelf hs (by omega) (N := N) (by simp (disch := omega) only [pk_us, pk_un, hN]) hNb) (by assumption) (by decide) rfl rfl rfl ⟨Nat.le_of_ble_eq_true rfl, Nat.le_of_ble_eq_true rfl⟩ ⟨Nat.zero_le _, Nat.zero_le _⟩ (Nat.le_of_ble_eq_true rfl) dX6_set_65 rfl (fun I1 hq => ?_)
          subst hq
          refine j_iload (pc' := 70) dX6_set_68 rfl rfl ?_
          refine j_reti dX6_set_70 rfl (by first | rfl | exact bi_n _) ?_
          constructor <;> simp (disch := omega) only [fSet, nI_clamp, hok, hos, c5, c13, c50, c60, reduceIte, Bool.false_eq_true, eq_self, and_true, and_false, true_and, false_and, not_true_eq_false, not_false_eq_true, Bool.and_true, Bool.and_false, Bool.true_and, Bool.false_and, ne_eq]
    ·
      refine j_sipush (pc' := 19) (v := -20001) dX6_set_16 rfl rfl ?_
      refine j_reti dX6_set_19 rfl (by first | rfl | exact bi_n _) ?_
      constructor <;> simp (disch := omega) only [fSet, nI_clamp, c5, c13, reduceIte, Bool.false_eq_true, eq_self, and_true, and_false, true_and, false_and, not_true_eq_false, not_false_eq_true, Bool.and_true, Bool.and_false, Bool.true_and, Bool.false_and, ne_eq]

/-- a new point's row -/
def zeroP (v : Nat → Int32) (k w : Nat) : Nat → Int32 := fun j => if 176 + 56 * k ≤ j ∧ j < 176 + 56 * k + w then 0 else v j
theorem zeroP_step {v : Nat → Int32} {k w : Nat} : upd (zeroP v k w) (176 + 56 * k + w) (nI 0) = zeroP v k (w + 1) := by
  funext j
  unfold upd zeroP
  by_cases h : j = 176 + 56 * k + w
  · rw [if_pos h, if_pos (by omega)]
    rfl
  · by_cases h2 : 176 + 56 * k ≤ j ∧ j < 176 + 56 * k + w
    · rw [if_neg h, if_pos h2, if_pos (by omega)]
    · rw [if_neg h, if_neg h2, if_neg (by omega)]
theorem zeroP_0 {v : Nat → Int32} {k : Nat} : zeroP v k 0 = v := by
  funext j
  unfold zeroP
  rw [if_neg (by omega)]
theorem zeroP_lo {v : Nat → Int32} {k w j : Nat} (h : j < 176) : zeroP v k w j = v j := by
  unfold zeroP
  rw [if_neg (by omega)]
def fAdd (v : Nat → Int32) (k : Nat) (x y : Int32) : Nat → Int32 := upd (upd (upd (upd (upd (zeroP v k 56) (176 + 56 * k + 1) x) (176 + 56 * k + 5) y) (176 + 56 * k + 8) (-1)) (176 + 56 * k + 10) (nI 1)) 0 (nI (k + 1))

set_option maxRecDepth 100000 in
set_option maxHeartbeats 4000000 in
theorem lp_X6_add {E : jx_E} {l : Launch} {n : Nat} {kd : jx_K} {R : jx_R} {I0 : jx_I} {m : Nat} {F v a p o t c : Nat → Int32} {k q : Nat} {x y : Int32} (hs : sMd kd R m) (hk : v 0 = nI k) (h16 : k ≤ 16) (hc : F 3 = nI q) (hc4 : q ≤ 4) (h1 : okV x = true) (h2 : decide (nI 1 ≤ y ∧ y ≤ nI 4) = true) (h3 : ¬ k = 16) : ∀ (z w : Nat), w ≤ 56 → z + w = 57 → jx_J E l cX6_add 5 (some .int) RX6 false (jx_rm 3) 0 0 (jx_Q0 n kd R (jx_Pi (fun r I' => r = (if okV x = true ∧ decide (nI 1 ≤ y ∧ y ≤ nI 4) = true then if k = 16 then -20003 else nI k else -20001) ∧ I' = if (okV x = true ∧ decide (nI 1 ≤ y ∧ y ≤ nI 4) = true) ∧ ¬ k = 16 then mI I0 m (upd F 3 (nI (kpC q))) (fAdd v k x y) a (kpP p q v) o t c else mI I0 m F v a p o t c))) 0 0 n kd R (mI I0 m (upd F 3 (nI (kpC q))) (zeroP v k w) a (kpP p q v) o t c) 53 [some (.ref m), some (.int x), some (.int y), some (.int (nI k)), some (.int (nI w))] [] := by
  obtain ⟨K0, K1, K2, K3, K4, K5, K6, R0, R1, R2, R4, R6, R10⟩ := id hs
  intro z
  induction z with
  | zero => intro w hw hz; omega
  | succ z ih =>
    intro w hw hz
    refine j_iload (pc' := 55) dX6_add_53 rfl rfl ?_
    refine j_bipush (pc' := 57) (v := nI 56) dX6_add_55 rfl rfl ?_
    first | refine j_icmp_geN (tgt := 74) (pc' := 60) (by omega) (by omega) dX6_add_57 rfl (by decide) (fun c57 => ?_) (fun c57 => ?_) | refine j_icmp_ge (tgt := 74) (pc' := 60) dX6_add_57 rfl (by decide) (fun c57 => ?_) (fun c57 => ?_)
    ·
      refine j_aload_n (pc' := 75) dX6_add_74 rfl rfl ?_
      refine j_iload_n (pc' := 76) dX6_add_75 rfl rfl ?_
      refine j_iconst (pc' := 77) (v := nI 1) dX6_add_76 rfl rfl ?_
      refine j_iload_n (pc' := 78) dX6_add_77 rfl rfl ?_
      refine j_cVv (pc' := 81) m_X6_44 (c_X6_puts hs (by omega) (by omega)) (by assumption) (by decide) rfl rfl rfl ⟨Nat.le_of_ble_eq_true rfl, Nat.le_of_ble_eq_true rfl⟩ ⟨Nat.zero_le _, Nat.zero_le _⟩ (Nat.le_of_ble_eq_true rfl) dX6_add_78 rfl (fun I1 hq => ?_)
      subst hq
      refine j_aload_n (pc' := 82) dX6_add_81 rfl rfl ?_
      refine j_iload_n (pc' := 83) dX6_add_82 rfl rfl ?_
      refine j_iconst (pc' := 84) (v := nI 5) dX6_add_83 rfl rfl ?_
      refine j_iload_n (pc' := 85) dX6_add_84 rfl rfl ?_
      refine j_cVv (pc' := 88) m_X6_44 (c_X6_puts hs (by omega) (by omega)) (by assumption) (by decide) rfl rfl rfl ⟨Nat.le_of_ble_eq_true rfl, Nat.le_of_ble_eq_true rfl⟩ ⟨Nat.zero_le _, Nat.zero_le _⟩ (Nat.le_of_ble_eq_true rfl) dX6_add_85 rfl (fun I1 hq => ?_)
      subst hq
      refine j_aload_n (pc' := 89) dX6_add_88 rfl rfl ?_
      refine j_iload_n (pc' := 90) dX6_add_89 rfl rfl ?_
      refine j_bipush (pc' := 92) (v := nI 8) dX6_add_90 rfl rfl ?_
      refine j_iconst (pc' := 93) (v := -1) dX6_add_92 rfl rfl ?_
      refine j_cVv (pc' := 96) m_X6_44 (c_X6_puts hs (by omega) (by omega)) (by assumption) (by decide) rfl rfl rfl ⟨Nat.le_of_ble_eq_true rfl, Nat.le_of_ble_eq_true rfl⟩ ⟨Nat.zero_le _, Nat.zero_le _⟩ (Nat.le_of_ble_eq_true rfl) dX6_add_93 rfl (fun I1 hq => ?_)
      subst hq
      refine j_aload_n (pc' := 97) dX6_add_96 rfl rfl ?_
      refine j_iload_n (pc' := 98) dX6_add_97 rfl rfl ?_
      refine j_bipush (pc' := 100) (v := nI 10) dX6_add_98 rfl rfl ?_
      refine j_iconst (pc' := 101) (v := nI 1) dX6_add_100 rfl rfl ?_
      refine j_cVv (pc' := 104) m_X6_44 (c_X6_puts hs (by omega) (by omega)) (by assumption) (by decide) rfl rfl rfl ⟨Nat.le_of_ble_eq_true rfl, Nat.le_of_ble_eq_true rfl⟩ ⟨Nat.zero_le _, Nat.zero_le _⟩ (Nat.le_of_ble_eq_true rfl) dX6_add_101 rfl (fun I1 hq => ?_)
      subst hq
      refine j_aload_n (pc' := 105) dX6_add_104 rfl rfl ?_
      refine j_getR (pc' := 108) f_X6_7 (by assumption) (by assumption) dX6_add_105 rfl ?_
      refine j_iconst (pc' := 109) (v := nI 0) dX6_add_108 rfl rfl ?_
      refine j_dup2 (pc' := 110) dX6_add_109 rfl rfl rfl ?_
      refine j_ialdv (pc' := 111) (by assumption) rfl (by omega) (by omega) (by first | (simp (disch := omega) only [jx_upS, jx_upK, jx_upA, mI_0, mI_1, mI_2, mI_3, mI_4, mI_5, mI_6, pk_us, pk_un, hk, zeroP_lo]; rfl) | rfl) dX6_add_110 rfl ?_
      refine j_iconst (pc' := 112) (v := nI 1) dX6_add_111 rfl rfl ?_
      first | refine j_iaddN (pc' := 113) dX6_add_112 rfl ?_ | refine j_iadd (pc' := 113) dX6_add_112 rfl ?_
      refine j_iast (pc' := 114) (by assumption) rfl (by omega) (by omega) dX6_add_113 rfl ?_
      first | refine j_eqI mW_1 ?_ | refine j_eqI mW_2 ?_ | refine j_eqI mW_3 ?_ | refine j_eqI mW_4 ?_ | refine j_eqI mW_5 ?_ | refine j_eqI mW_6 ?_
      refine j_iload_n (pc' := 115) dX6_add_114 rfl rfl ?_
      refine j_reti dX6_add_115 rfl (by first | rfl | exact bi_n _) ?_
      have : w = 56 := by omega
      subst this
      refine ⟨?_, ?_⟩
      · rw [if_pos ⟨h1, h2⟩, if_neg h3]
      · rw [if_pos ⟨⟨h1, h2⟩, h3⟩]
        rfl
    ·
      refine j_aload_n (pc' := 61) dX6_add_60 rfl rfl ?_
      refine j_iload_n (pc' := 62) dX6_add_61 rfl rfl ?_
      refine j_iload (pc' := 64) dX6_add_62 rfl rfl ?_
      refine j_iconst (pc' := 65) (v := nI 0) dX6_add_64 rfl rfl ?_
      refine j_cVv (pc' := 68) m_X6_44 (c_X6_puts hs (by omega) (by omega)) (by assumption) (by decide) rfl rfl rfl ⟨Nat.le_of_ble_eq_true rfl, Nat.le_of_ble_eq_true rfl⟩ ⟨Nat.zero_le _, Nat.zero_le _⟩ (Nat.le_of_ble_eq_true rfl) dX6_add_65 rfl (fun I1 hq => ?_)
      subst hq
      rw [zeroP_step]
      first | refine j_iincN (pc' := 71) (lv' := [_, _, _, _, _]) dX6_add_68 rfl rfl (by decide) rfl ?_ | refine j_iinc (pc' := 71) (lv' := [_, _, _, _, _]) dX6_add_68 rfl rfl rfl (by decide) rfl ?_
      refine j_goto (tgt := 53) dX6_add_71 (by decide) ?_
      exact ih (w + 1) (by omega) (by omega)
set_option maxRecDepth 100000 in
set_option maxHeartbeats 4000000 in
theorem c_X6_add {E : jx_E} {l : Launch} {n : Nat} {kd : jx_K} {R : jx_R} {I0 : jx_I} {m : Nat} {F v a p o t c : Nat → Int32} {k q : Nat} {x y : Int32} (hs : sMd kd R m) (hk : v 0 = nI k) (h16 : k ≤ 16) (hc : F 3 = nI q) (hc4 : q ≤ 4) : jx_Ci E l yX6_add cX6_add 5 (some .int) 3 n kd R (mI I0 m F v a p o t c) [.ref m, .int x, .int y] (fun r I' => r = (if okV x = true ∧ decide (nI 1 ≤ y ∧ y ≤ nI 4) = true then if k = 16 then -20003 else nI k else -20001) ∧ I' = if (okV x = true ∧ decide (nI 1 ≤ y ∧ y ≤ nI 4) = true) ∧ ¬ k = 16 then mI I0 m (upd F 3 (nI (kpC q))) (fAdd v k x y) a (kpP p q v) o t c else mI I0 m F v a p o t c) := by
  obtain ⟨K0, K1, K2, K3, K4, K5, K6, R0, R1, R2, R4, R6, R10⟩ := id hs
  refine jx_C0.ofJ RX6 [some (.ref m), some (.int x), some (.int y), none, none] (by decide) rfl rfl (Nat.le_of_ble_eq_true rfl) rfl ?_
  refine j_iload_n (pc' := 1) dX6_add_0 rfl rfl ?_
  refine j_cSi (pc' := 4) m_X6_36 (c_X6_isValue E l n kd R _ _) rfl rfl ⟨Nat.le_of_ble_eq_true rfl, Nat.le_of_ble_eq_true rfl⟩ ⟨Nat.zero_le _, Nat.zero_le _⟩ (Nat.le_of_ble_eq_true rfl) dX6_add_1 rfl (fun x1 I1 hq => ?_)
  obtain ⟨rfl, rfl⟩ := hq
  first | refine j_if_eqB (tgt := 16) (pc' := 7) dX6_add_4 rfl (by decide) (fun c4 => ?_) (fun c4 => ?_) | refine j_if_eqN (tgt := 16) (pc' := 7) (by omega) dX6_add_4 rfl (by decide) (fun c4 => ?_) (fun c4 => ?_) | refine j_if_eq (tgt := 16) (pc' := 7) dX6_add_4 rfl (by decide) (fun c4 => ?_) (fun c4 => ?_)
  ·
    refine j_sipush (pc' := 19) (v := -20001) dX6_add_16 rfl rfl ?_
    refine j_reti dX6_add_19 rfl (by first | rfl | exact bi_n _) ?_
    constructor <;> simp only [c4, reduceIte, Bool.false_eq_true, and_true, and_false, true_and, false_and, not_true_eq_false, not_false_eq_true, decide_true, eq_self]
  ·
    refine j_iload_n (pc' := 8) dX6_add_7 rfl rfl ?_
    refine j_iconst (pc' := 9) (v := nI 1) dX6_add_8 rfl rfl ?_
    refine j_iconst (pc' := 10) (v := nI 4) dX6_add_9 rfl rfl ?_
    refine j_cSi (pc' := 13) m_X6_32 (c_X6_in E l n kd R _ _ _ _) rfl rfl ⟨Nat.le_of_ble_eq_true rfl, Nat.le_of_ble_eq_true rfl⟩ ⟨Nat.zero_le _, Nat.zero_le _⟩ (Nat.le_of_ble_eq_true rfl) dX6_add_10 rfl (fun x1 I1 hq => ?_)
    obtain ⟨rfl, rfl⟩ := hq
    first | refine j_if_neB (tgt := 20) (pc' := 16) dX6_add_13 rfl (by decide) (fun c13 => ?_) (fun c13 => ?_) | refine j_if_neN (tgt := 20) (pc' := 16) (by omega) dX6_add_13 rfl (by decide) (fun c13 => ?_) (fun c13 => ?_) | refine j_if_ne (tgt := 20) (pc' := 16) dX6_add_13 rfl (by decide) (fun c13 => ?_) (fun c13 => ?_)
    ·
      refine j_aload_n (pc' := 21) dX6_add_20 rfl rfl ?_
      refine j_getR (pc' := 24) f_X6_7 (by assumption) (by assumption) dX6_add_21 rfl ?_
      refine j_iconst (pc' := 25) (v := nI 0) dX6_add_24 rfl rfl ?_
      refine j_ialdv (pc' := 26) (by assumption) rfl (by omega) (by omega) (by first | (simp (disch := omega) only [jx_upS, jx_upK, jx_upA, mI_0, mI_1, mI_2, mI_3, mI_4, mI_5, mI_6, pk_us, pk_un, hk]; rfl) | rfl) dX6_add_25 rfl ?_
      refine j_bipush (pc' := 28) (v := nI 16) dX6_add_26 rfl rfl ?_
      first | refine j_icmp_neN (tgt := 35) (pc' := 31) (by omega) (by omega) dX6_add_28 rfl (by decide) (fun c28 => ?_) (fun c28 => ?_) | refine j_icmp_ne (tgt := 35) (pc' := 31) dX6_add_28 rfl (by decide) (fun c28 => ?_) (fun c28 => ?_)
      ·
        refine j_aload_n (pc' := 36) dX6_add_35 rfl rfl ?_
        refine j_aload_n (pc' := 37) dX6_add_36 rfl rfl ?_
        refine j_getR (pc' := 40) f_X6_7 (by assumption) (by assumption) dX6_add_37 rfl ?_
        refine j_cVv (pc' := 43) m_X6_40 (c_X6_keeps (row := v) hs K1 (fun _ _ => mI_1) hc hc4) (by assumption) (by decide) rfl rfl rfl ⟨Nat.le_of_ble_eq_true rfl, Nat.le_of_ble_eq_true rfl⟩ ⟨Nat.zero_le _, Nat.zero_le _⟩ (Nat.le_of_ble_eq_true rfl) dX6_add_40 rfl (fun I1 hq => ?_)
        subst hq
        refine j_aload_n (pc' := 44) dX6_add_43 rfl rfl ?_
        refine j_getR (pc' := 47) f_X6_7 (by assumption) (by assumption) dX6_add_44 rfl ?_
        refine j_iconst (pc' := 48) (v := nI 0) dX6_add_47 rfl rfl ?_
        refine j_ialdv (pc' := 49) (by assumption) rfl (by omega) (by omega) (by first | (simp (disch := omega) only [jx_upS, jx_upK, jx_upA, mI_0, mI_1, mI_2, mI_3, mI_4, mI_5, mI_6, pk_us, pk_un, hk]; rfl) | rfl) dX6_add_48 rfl ?_
        refine j_istore_n (pc' := 50) (lv' := [_, _, _, _, _]) dX6_add_49 rfl (by decide) rfl ?_
        refine j_iconst (pc' := 51) (v := nI 0) dX6_add_50 rfl rfl ?_
        refine j_istore (pc' := 53) (lv' := [_, _, _, _, _]) dX6_add_51 rfl (by decide) rfl ?_
        have h := lp_X6_add (E := E) (l := l) (n := n) (I0 := I0) (a := a) (p := p) (o := o) (t := t) (c := c) hs hk h16 hc hc4 c4 c13 c28 57 0 (by omega) (by omega)
        rw [zeroP_0] at h
        exact h
      ·
        refine j_sipush (pc' := 34) (v := -20003) dX6_add_31 rfl rfl ?_
        refine j_reti dX6_add_34 rfl (by first | rfl | exact bi_n _) ?_
        constructor <;> simp only [c4, c13, c28, reduceIte, Bool.false_eq_true, and_true, and_false, true_and, false_and, not_true_eq_false, not_false_eq_true, decide_true, eq_self]
    ·
      refine j_sipush (pc' := 19) (v := -20001) dX6_add_16 rfl rfl ?_
      refine j_reti dX6_add_19 rfl (by first | rfl | exact bi_n _) ?_
      constructor <;> simp only [c4, c13, reduceIte, Bool.false_eq_true, and_true, and_false, true_and, false_and, not_true_eq_false, not_false_eq_true, decide_true, eq_self]
end
