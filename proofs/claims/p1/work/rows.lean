section
-- ===== PART A: goes FIRST, ahead of the names: the tables' words, and 'selects' of the private methods out of them =====
/-- a private method of a class that the tables say can be made, by its rows of tables_1 -/
def lw_okq (q : MethodName × Nat) : Prop := (q.1.cls ≠ "java/lang/invoke/MethodHandle" ∧ q.1.cls ≠ "java/lang/invoke/VarHandle") ∧ Cond.instantiable q.1.cls q.2 ∈ tables_1 ∧ Cond.privateMethod q.1 ∈ tables_1 ∧ Cond.instanceMethod q.1 ∈ tables_1
theorem lw_p0 : lw_okq (⟨"StandInLan$Router", "weighed", "()I"⟩, 11) := ⟨⟨by decide +kernel, by decide +kernel⟩, List.mem_of_getElem? (i := 104) (by decide +kernel), List.mem_of_getElem? (i := 258) (by decide +kernel), List.mem_of_getElem? (i := 259) (by decide +kernel)⟩
theorem lw_p1 : lw_okq (⟨"java/lang/Throwable", "fillInStackTrace", "(I)Ljava/lang/Throwable;"⟩, 6) := ⟨⟨by decide +kernel, by decide +kernel⟩, List.mem_of_getElem? (i := 341) (by decide +kernel), List.mem_of_getElem? (i := 339) (by decide +kernel), List.mem_of_getElem? (i := 340) (by decide +kernel)⟩
theorem lw_p2 : lw_okq (⟨"StandInLan$Router", "becomeActive", "()V"⟩, 11) := ⟨⟨by decide +kernel, by decide +kernel⟩, List.mem_of_getElem? (i := 104) (by decide +kernel), List.mem_of_getElem? (i := 416) (by decide +kernel), List.mem_of_getElem? (i := 417) (by decide +kernel)⟩
theorem lw_p3 : lw_okq (⟨"StandInLan$Router", "advertise", "(I)V"⟩, 11) := ⟨⟨by decide +kernel, by decide +kernel⟩, List.mem_of_getElem? (i := 104) (by decide +kernel), List.mem_of_getElem? (i := 420) (by decide +kernel), List.mem_of_getElem? (i := 421) (by decide +kernel)⟩
theorem lw_p4 : lw_okq (⟨"StandInLan$Router", "sendDraft", "()V"⟩, 11) := ⟨⟨by decide +kernel, by decide +kernel⟩, List.mem_of_getElem? (i := 104) (by decide +kernel), List.mem_of_getElem? (i := 449) (by decide +kernel), List.mem_of_getElem? (i := 450) (by decide +kernel)⟩
theorem lw_p5 : lw_okq (⟨"StandInLan$Router", "becomeBackup", "()V"⟩, 11) := ⟨⟨by decide +kernel, by decide +kernel⟩, List.mem_of_getElem? (i := 104) (by decide +kernel), List.mem_of_getElem? (i := 461) (by decide +kernel), List.mem_of_getElem? (i := 462) (by decide +kernel)⟩
theorem lw_p6 : lw_okq (⟨"StandInLan$Router", "skew", "()I"⟩, 11) := ⟨⟨by decide +kernel, by decide +kernel⟩, List.mem_of_getElem? (i := 104) (by decide +kernel), List.mem_of_getElem? (i := 465) (by decide +kernel), List.mem_of_getElem? (i := 466) (by decide +kernel)⟩
theorem lw_p7 : lw_okq (⟨"StandInLan$Session", "useRates", "()V"⟩, 19) := ⟨⟨by decide +kernel, by decide +kernel⟩, List.mem_of_getElem? (i := 113) (by decide +kernel), List.mem_of_getElem? (i := 501) (by decide +kernel), List.mem_of_getElem? (i := 502) (by decide +kernel)⟩
theorem lw_p8 : lw_okq (⟨"StandInLan", "handOut", "(LStandInLan$Frame;)V"⟩, 3) := ⟨⟨by decide +kernel, by decide +kernel⟩, List.mem_of_getElem? (i := 15) (by decide +kernel), List.mem_of_getElem? (i := 564) (by decide +kernel), List.mem_of_getElem? (i := 565) (by decide +kernel)⟩
theorem lw_p9 : lw_okq (⟨"StandInLan$Router", "isForUs", "(LStandInLan$Frame;)Z"⟩, 11) := ⟨⟨by decide +kernel, by decide +kernel⟩, List.mem_of_getElem? (i := 104) (by decide +kernel), List.mem_of_getElem? (i := 576) (by decide +kernel), List.mem_of_getElem? (i := 577) (by decide +kernel)⟩
theorem lw_p10 : lw_okq (⟨"StandInLan$Router", "hearAsActive", "(LStandInLan$Frame;)V"⟩, 11) := ⟨⟨by decide +kernel, by decide +kernel⟩, List.mem_of_getElem? (i := 104) (by decide +kernel), List.mem_of_getElem? (i := 588) (by decide +kernel), List.mem_of_getElem? (i := 589) (by decide +kernel)⟩
theorem lw_p11 : lw_okq (⟨"StandInLan$Router", "hearAsBackup", "(LStandInLan$Frame;)V"⟩, 11) := ⟨⟨by decide +kernel, by decide +kernel⟩, List.mem_of_getElem? (i := 104) (by decide +kernel), List.mem_of_getElem? (i := 604) (by decide +kernel), List.mem_of_getElem? (i := 605) (by decide +kernel)⟩
theorem lw_p12 : lw_okq (⟨"StandInLan$Router", "hearPacket", "(LStandInLan$Frame;)Z"⟩, 11) := ⟨⟨by decide +kernel, by decide +kernel⟩, List.mem_of_getElem? (i := 104) (by decide +kernel), List.mem_of_getElem? (i := 608) (by decide +kernel), List.mem_of_getElem? (i := 609) (by decide +kernel)⟩
theorem lw_p13 : lw_okq (⟨"StandInLan$Router", "sessionMeant", "(LStandInLan$Frame;)LStandInLan$Session;"⟩, 11) := ⟨⟨by decide +kernel, by decide +kernel⟩, List.mem_of_getElem? (i := 104) (by decide +kernel), List.mem_of_getElem? (i := 615) (by decide +kernel), List.mem_of_getElem? (i := 616) (by decide +kernel)⟩
theorem lw_p14 : lw_okq (⟨"StandInLan$Session", "follow", "()V"⟩, 19) := ⟨⟨by decide +kernel, by decide +kernel⟩, List.mem_of_getElem? (i := 113) (by decide +kernel), List.mem_of_getElem? (i := 630) (by decide +kernel), List.mem_of_getElem? (i := 631) (by decide +kernel)⟩
theorem lw_p15 : lw_okq (⟨"StandInLan$Session", "fall", "(I)V"⟩, 19) := ⟨⟨by decide +kernel, by decide +kernel⟩, List.mem_of_getElem? (i := 113) (by decide +kernel), List.mem_of_getElem? (i := 634) (by decide +kernel), List.mem_of_getElem? (i := 635) (by decide +kernel)⟩
def lw_privs_1 : List (MethodName × Nat) := [(⟨"StandInLan$Router", "weighed", "()I"⟩, 11), (⟨"java/lang/Throwable", "fillInStackTrace", "(I)Ljava/lang/Throwable;"⟩, 6), (⟨"StandInLan$Router", "becomeActive", "()V"⟩, 11), (⟨"StandInLan$Router", "advertise", "(I)V"⟩, 11), (⟨"StandInLan$Router", "sendDraft", "()V"⟩, 11), (⟨"StandInLan$Router", "becomeBackup", "()V"⟩, 11), (⟨"StandInLan$Router", "skew", "()I"⟩, 11), (⟨"StandInLan$Session", "useRates", "()V"⟩, 19), (⟨"StandInLan", "handOut", "(LStandInLan$Frame;)V"⟩, 3), (⟨"StandInLan$Router", "isForUs", "(LStandInLan$Frame;)Z"⟩, 11), (⟨"StandInLan$Router", "hearAsActive", "(LStandInLan$Frame;)V"⟩, 11), (⟨"StandInLan$Router", "hearAsBackup", "(LStandInLan$Frame;)V"⟩, 11), (⟨"StandInLan$Router", "hearPacket", "(LStandInLan$Frame;)Z"⟩, 11), (⟨"StandInLan$Router", "sessionMeant", "(LStandInLan$Frame;)LStandInLan$Session;"⟩, 11), (⟨"StandInLan$Session", "follow", "()V"⟩, 19), (⟨"StandInLan$Session", "fall", "(I)V"⟩, 19)]
theorem lw_r1 : ∀ q ∈ lw_privs_1, lw_okq q := List.forall_mem_cons.mpr ⟨lw_p0, List.forall_mem_cons.mpr ⟨lw_p1, List.forall_mem_cons.mpr ⟨lw_p2, List.forall_mem_cons.mpr ⟨lw_p3, List.forall_mem_cons.mpr ⟨lw_p4, List.forall_mem_cons.mpr ⟨lw_p5, List.forall_mem_cons.mpr ⟨lw_p6, List.forall_mem_cons.mpr ⟨lw_p7, List.forall_mem_cons.mpr ⟨lw_p8, List.forall_mem_cons.mpr ⟨lw_p9, List.forall_mem_cons.mpr ⟨lw_p10, List.forall_mem_cons.mpr ⟨lw_p11, List.forall_mem_cons.mpr ⟨lw_p12, List.forall_mem_cons.mpr ⟨lw_p13, List.forall_mem_cons.mpr ⟨lw_p14, List.forall_mem_cons.mpr ⟨lw_p15, fun _ h => absurd h List.not_mem_nil⟩⟩⟩⟩⟩⟩⟩⟩⟩⟩⟩⟩⟩⟩⟩⟩
theorem lw_p16 : lw_okq (⟨"StandInLan$Session", "comeUp", "()V"⟩, 19) := ⟨⟨by decide +kernel, by decide +kernel⟩, List.mem_of_getElem? (i := 113) (by decide +kernel), List.mem_of_getElem? (i := 638) (by decide +kernel), List.mem_of_getElem? (i := 639) (by decide +kernel)⟩
theorem lw_p17 : lw_okq (⟨"StandInLan$Router", "sendPacket", "(LStandInLan$Session;I)V"⟩, 11) := ⟨⟨by decide +kernel, by decide +kernel⟩, List.mem_of_getElem? (i := 104) (by decide +kernel), List.mem_of_getElem? (i := 642) (by decide +kernel), List.mem_of_getElem? (i := 643) (by decide +kernel)⟩
theorem lw_p18 : lw_okq (⟨"StandInLan$Router", "timerFires", "()V"⟩, 11) := ⟨⟨by decide +kernel, by decide +kernel⟩, List.mem_of_getElem? (i := 104) (by decide +kernel), List.mem_of_getElem? (i := 652) (by decide +kernel), List.mem_of_getElem? (i := 653) (by decide +kernel)⟩
theorem lw_p19 : lw_okq (⟨"StandInLan$Router", "runSession", "(LStandInLan$Session;)V"⟩, 11) := ⟨⟨by decide +kernel, by decide +kernel⟩, List.mem_of_getElem? (i := 104) (by decide +kernel), List.mem_of_getElem? (i := 656) (by decide +kernel), List.mem_of_getElem? (i := 657) (by decide +kernel)⟩
theorem lw_p20 : lw_okq (⟨"StandInLanModel", "is", "(II)I"⟩, 43) := ⟨⟨by decide +kernel, by decide +kernel⟩, List.mem_of_getElem? (i := 677) (by decide +kernel), List.mem_of_getElem? (i := 834) (by decide +kernel), List.mem_of_getElem? (i := 835) (by decide +kernel)⟩
theorem lw_p21 : lw_okq (⟨"StandInLanModel", "weighed", "(I)I"⟩, 43) := ⟨⟨by decide +kernel, by decide +kernel⟩, List.mem_of_getElem? (i := 677) (by decide +kernel), List.mem_of_getElem? (i := 838) (by decide +kernel), List.mem_of_getElem? (i := 839) (by decide +kernel)⟩
theorem lw_p22 : lw_okq (⟨"StandInLanModel", "beActive", "(I)V"⟩, 43) := ⟨⟨by decide +kernel, by decide +kernel⟩, List.mem_of_getElem? (i := 677) (by decide +kernel), List.mem_of_getElem? (i := 845) (by decide +kernel), List.mem_of_getElem? (i := 846) (by decide +kernel)⟩
theorem lw_p23 : lw_okq (⟨"StandInLanModel", "advertise", "(II)V"⟩, 43) := ⟨⟨by decide +kernel, by decide +kernel⟩, List.mem_of_getElem? (i := 677) (by decide +kernel), List.mem_of_getElem? (i := 849) (by decide +kernel), List.mem_of_getElem? (i := 850) (by decide +kernel)⟩
theorem lw_p24 : lw_okq (⟨"StandInLanModel", "put", "(I)V"⟩, 43) := ⟨⟨by decide +kernel, by decide +kernel⟩, List.mem_of_getElem? (i := 677) (by decide +kernel), List.mem_of_getElem? (i := 853) (by decide +kernel), List.mem_of_getElem? (i := 854) (by decide +kernel)⟩
theorem lw_p25 : lw_okq (⟨"StandInLanModel", "putMany", "(II)V"⟩, 43) := ⟨⟨by decide +kernel, by decide +kernel⟩, List.mem_of_getElem? (i := 677) (by decide +kernel), List.mem_of_getElem? (i := 857) (by decide +kernel), List.mem_of_getElem? (i := 858) (by decide +kernel)⟩
theorem lw_p26 : lw_okq (⟨"StandInLanModel", "send", "(IIII)V"⟩, 43) := ⟨⟨by decide +kernel, by decide +kernel⟩, List.mem_of_getElem? (i := 677) (by decide +kernel), List.mem_of_getElem? (i := 869) (by decide +kernel), List.mem_of_getElem? (i := 870) (by decide +kernel)⟩
theorem lw_p27 : lw_okq (⟨"StandInLanModel", "beBackup", "(I)V"⟩, 43) := ⟨⟨by decide +kernel, by decide +kernel⟩, List.mem_of_getElem? (i := 677) (by decide +kernel), List.mem_of_getElem? (i := 873) (by decide +kernel), List.mem_of_getElem? (i := 874) (by decide +kernel)⟩
theorem lw_p28 : lw_okq (⟨"StandInLanModel", "skew", "(I)I"⟩, 43) := ⟨⟨by decide +kernel, by decide +kernel⟩, List.mem_of_getElem? (i := 677) (by decide +kernel), List.mem_of_getElem? (i := 877) (by decide +kernel), List.mem_of_getElem? (i := 878) (by decide +kernel)⟩
theorem lw_p29 : lw_okq (⟨"StandInLanModel", "setSend", "(I)V"⟩, 43) := ⟨⟨by decide +kernel, by decide +kernel⟩, List.mem_of_getElem? (i := 677) (by decide +kernel), List.mem_of_getElem? (i := 896) (by decide +kernel), List.mem_of_getElem? (i := 897) (by decide +kernel)⟩
theorem lw_p30 : lw_okq (⟨"StandInLanModel", "sendTime", "(I)I"⟩, 43) := ⟨⟨by decide +kernel, by decide +kernel⟩, List.mem_of_getElem? (i := 677) (by decide +kernel), List.mem_of_getElem? (i := 900) (by decide +kernel), List.mem_of_getElem? (i := 901) (by decide +kernel)⟩
theorem lw_p31 : lw_okq (⟨"StandInLanModel", "hurry", "(I)V"⟩, 43) := ⟨⟨by decide +kernel, by decide +kernel⟩, List.mem_of_getElem? (i := 677) (by decide +kernel), List.mem_of_getElem? (i := 908) (by decide +kernel), List.mem_of_getElem? (i := 909) (by decide +kernel)⟩
def lw_privs_2 : List (MethodName × Nat) := [(⟨"StandInLan$Session", "comeUp", "()V"⟩, 19), (⟨"StandInLan$Router", "sendPacket", "(LStandInLan$Session;I)V"⟩, 11), (⟨"StandInLan$Router", "timerFires", "()V"⟩, 11), (⟨"StandInLan$Router", "runSession", "(LStandInLan$Session;)V"⟩, 11), (⟨"StandInLanModel", "is", "(II)I"⟩, 43), (⟨"StandInLanModel", "weighed", "(I)I"⟩, 43), (⟨"StandInLanModel", "beActive", "(I)V"⟩, 43), (⟨"StandInLanModel", "advertise", "(II)V"⟩, 43), (⟨"StandInLanModel", "put", "(I)V"⟩, 43), (⟨"StandInLanModel", "putMany", "(II)V"⟩, 43), (⟨"StandInLanModel", "send", "(IIII)V"⟩, 43), (⟨"StandInLanModel", "beBackup", "(I)V"⟩, 43), (⟨"StandInLanModel", "skew", "(I)I"⟩, 43), (⟨"StandInLanModel", "setSend", "(I)V"⟩, 43), (⟨"StandInLanModel", "sendTime", "(I)I"⟩, 43), (⟨"StandInLanModel", "hurry", "(I)V"⟩, 43)]
theorem lw_r2 : ∀ q ∈ lw_privs_2, lw_okq q := List.forall_mem_cons.mpr ⟨lw_p16, List.forall_mem_cons.mpr ⟨lw_p17, List.forall_mem_cons.mpr ⟨lw_p18, List.forall_mem_cons.mpr ⟨lw_p19, List.forall_mem_cons.mpr ⟨lw_p20, List.forall_mem_cons.mpr ⟨lw_p21, List.forall_mem_cons.mpr ⟨lw_p22, List.forall_mem_cons.mpr ⟨lw_p23, List.forall_mem_cons.mpr ⟨lw_p24, List.forall_mem_cons.mpr ⟨lw_p25, List.forall_mem_cons.mpr ⟨lw_p26, List.forall_mem_cons.mpr ⟨lw_p27, List.forall_mem_cons.mpr ⟨lw_p28, List.forall_mem_cons.mpr ⟨lw_p29, List.forall_mem_cons.mpr ⟨lw_p30, List.forall_mem_cons.mpr ⟨lw_p31, fun _ h => absurd h List.not_mem_nil⟩⟩⟩⟩⟩⟩⟩⟩⟩⟩⟩⟩⟩⟩⟩⟩
theorem lw_p32 : lw_okq (⟨"StandInLanModel", "arriveAll", "()V"⟩, 43) := ⟨⟨by decide +kernel, by decide +kernel⟩, List.mem_of_getElem? (i := 677) (by decide +kernel), List.mem_of_getElem? (i := 916) (by decide +kernel), List.mem_of_getElem? (i := 917) (by decide +kernel)⟩
theorem lw_p33 : lw_okq (⟨"StandInLanModel", "forget", "(I)V"⟩, 43) := ⟨⟨by decide +kernel, by decide +kernel⟩, List.mem_of_getElem? (i := 677) (by decide +kernel), List.mem_of_getElem? (i := 920) (by decide +kernel), List.mem_of_getElem? (i := 921) (by decide +kernel)⟩
theorem lw_p34 : lw_okq (⟨"StandInLanModel", "reach", "(IIIII)V"⟩, 43) := ⟨⟨by decide +kernel, by decide +kernel⟩, List.mem_of_getElem? (i := 677) (by decide +kernel), List.mem_of_getElem? (i := 924) (by decide +kernel), List.mem_of_getElem? (i := 925) (by decide +kernel)⟩
theorem lw_p35 : lw_okq (⟨"StandInLanModel", "advertised", "(III)Z"⟩, 43) := ⟨⟨by decide +kernel, by decide +kernel⟩, List.mem_of_getElem? (i := 677) (by decide +kernel), List.mem_of_getElem? (i := 928) (by decide +kernel), List.mem_of_getElem? (i := 929) (by decide +kernel)⟩
theorem lw_p36 : lw_okq (⟨"StandInLanModel", "told", "(II)J"⟩, 43) := ⟨⟨by decide +kernel, by decide +kernel⟩, List.mem_of_getElem? (i := 677) (by decide +kernel), List.mem_of_getElem? (i := 932) (by decide +kernel), List.mem_of_getElem? (i := 933) (by decide +kernel)⟩
theorem lw_p37 : lw_okq (⟨"StandInLanModel", "packeted", "(III)Z"⟩, 43) := ⟨⟨by decide +kernel, by decide +kernel⟩, List.mem_of_getElem? (i := 677) (by decide +kernel), List.mem_of_getElem? (i := 937) (by decide +kernel), List.mem_of_getElem? (i := 938) (by decide +kernel)⟩
theorem lw_p38 : lw_okq (⟨"StandInLanModel", "meant", "(II)I"⟩, 43) := ⟨⟨by decide +kernel, by decide +kernel⟩, List.mem_of_getElem? (i := 677) (by decide +kernel), List.mem_of_getElem? (i := 941) (by decide +kernel), List.mem_of_getElem? (i := 942) (by decide +kernel)⟩
theorem lw_p39 : lw_okq (⟨"StandInLanModel", "turn", "(II)V"⟩, 43) := ⟨⟨by decide +kernel, by decide +kernel⟩, List.mem_of_getElem? (i := 677) (by decide +kernel), List.mem_of_getElem? (i := 952) (by decide +kernel), List.mem_of_getElem? (i := 953) (by decide +kernel)⟩
theorem lw_p40 : lw_okq (⟨"StandInLanModel", "goDown", "(II)V"⟩, 43) := ⟨⟨by decide +kernel, by decide +kernel⟩, List.mem_of_getElem? (i := 677) (by decide +kernel), List.mem_of_getElem? (i := 956) (by decide +kernel), List.mem_of_getElem? (i := 957) (by decide +kernel)⟩
theorem lw_p41 : lw_okq (⟨"StandInLanModel", "goUp", "(I)V"⟩, 43) := ⟨⟨by decide +kernel, by decide +kernel⟩, List.mem_of_getElem? (i := 677) (by decide +kernel), List.mem_of_getElem? (i := 960) (by decide +kernel), List.mem_of_getElem? (i := 961) (by decide +kernel)⟩
theorem lw_p42 : lw_okq (⟨"StandInLanModel", "sendPacket", "(III)V"⟩, 43) := ⟨⟨by decide +kernel, by decide +kernel⟩, List.mem_of_getElem? (i := 677) (by decide +kernel), List.mem_of_getElem? (i := 964) (by decide +kernel), List.mem_of_getElem? (i := 965) (by decide +kernel)⟩
theorem lw_p43 : lw_okq (⟨"StandInLanModel", "work", "(I)V"⟩, 43) := ⟨⟨by decide +kernel, by decide +kernel⟩, List.mem_of_getElem? (i := 677) (by decide +kernel), List.mem_of_getElem? (i := 968) (by decide +kernel), List.mem_of_getElem? (i := 969) (by decide +kernel)⟩
theorem lw_p44 : lw_okq (⟨"StandInLanModel", "timerFires", "(I)V"⟩, 43) := ⟨⟨by decide +kernel, by decide +kernel⟩, List.mem_of_getElem? (i := 677) (by decide +kernel), List.mem_of_getElem? (i := 972) (by decide +kernel), List.mem_of_getElem? (i := 973) (by decide +kernel)⟩
theorem lw_p45 : lw_okq (⟨"StandInLanModel", "detectFires", "(I)V"⟩, 43) := ⟨⟨by decide +kernel, by decide +kernel⟩, List.mem_of_getElem? (i := 677) (by decide +kernel), List.mem_of_getElem? (i := 976) (by decide +kernel), List.mem_of_getElem? (i := 977) (by decide +kernel)⟩
theorem lw_p46 : lw_okq (⟨"StandInLanModel", "raise", "(I)Z"⟩, 43) := ⟨⟨by decide +kernel, by decide +kernel⟩, List.mem_of_getElem? (i := 677) (by decide +kernel), List.mem_of_getElem? (i := 989) (by decide +kernel), List.mem_of_getElem? (i := 990) (by decide +kernel)⟩
def lw_privs_3 : List (MethodName × Nat) := [(⟨"StandInLanModel", "arriveAll", "()V"⟩, 43), (⟨"StandInLanModel", "forget", "(I)V"⟩, 43), (⟨"StandInLanModel", "reach", "(IIIII)V"⟩, 43), (⟨"StandInLanModel", "advertised", "(III)Z"⟩, 43), (⟨"StandInLanModel", "told", "(II)J"⟩, 43), (⟨"StandInLanModel", "packeted", "(III)Z"⟩, 43), (⟨"StandInLanModel", "meant", "(II)I"⟩, 43), (⟨"StandInLanModel", "turn", "(II)V"⟩, 43), (⟨"StandInLanModel", "goDown", "(II)V"⟩, 43), (⟨"StandInLanModel", "goUp", "(I)V"⟩, 43), (⟨"StandInLanModel", "sendPacket", "(III)V"⟩, 43), (⟨"StandInLanModel", "work", "(I)V"⟩, 43), (⟨"StandInLanModel", "timerFires", "(I)V"⟩, 43), (⟨"StandInLanModel", "detectFires", "(I)V"⟩, 43), (⟨"StandInLanModel", "raise", "(I)Z"⟩, 43)]
theorem lw_r3 : ∀ q ∈ lw_privs_3, lw_okq q := List.forall_mem_cons.mpr ⟨lw_p32, List.forall_mem_cons.mpr ⟨lw_p33, List.forall_mem_cons.mpr ⟨lw_p34, List.forall_mem_cons.mpr ⟨lw_p35, List.forall_mem_cons.mpr ⟨lw_p36, List.forall_mem_cons.mpr ⟨lw_p37, List.forall_mem_cons.mpr ⟨lw_p38, List.forall_mem_cons.mpr ⟨lw_p39, List.forall_mem_cons.mpr ⟨lw_p40, List.forall_mem_cons.mpr ⟨lw_p41, List.forall_mem_cons.mpr ⟨lw_p42, List.forall_mem_cons.mpr ⟨lw_p43, List.forall_mem_cons.mpr ⟨lw_p44, List.forall_mem_cons.mpr ⟨lw_p45, List.forall_mem_cons.mpr ⟨lw_p46, fun _ h => absurd h List.not_mem_nil⟩⟩⟩⟩⟩⟩⟩⟩⟩⟩⟩⟩⟩⟩⟩
def lw_privs : List (MethodName × Nat) := lw_privs_1 ++ (lw_privs_2 ++ (lw_privs_3))
def lw_tbl : List Cond := k2_sels lw_privs ++ tables_1
theorem lw_privs_ok : ∀ q ∈ lw_privs, lw_okq q := by
  show ∀ q ∈ lw_privs_1 ++ (lw_privs_2 ++ (lw_privs_3)), lw_okq q
  exact List.forall_mem_append.mpr ⟨lw_r1, List.forall_mem_append.mpr ⟨lw_r2, lw_r3⟩⟩
end
section
/-- the words that every state of the walk has -/
def zT : List Cond := lw_tbl.filter goodWord
theorem zin {w : Cond} (i : Nat) (h : lw_tbl[i]? = some w) (g : goodWord w = true) : w ∈ zT := List.mem_filter.mpr ⟨List.mem_of_getElem? h, g⟩
/-! THE Z LAYER: one walk of one method over ONE pool of cells (all objects of a system), whose contents K describes. Z hides heap, written places, the array of locals. -/
abbrev zX : Type := Program × Launch × Env × Room × State × MethodId × Array Value × List Frame × Method × Code × Nat × Nat
abbrev zG : Type := va_G × List vw_C × List (ClassId × FieldType) × List Nat
abbrev zK : Type := (Nat → va_E) → Prop
def zW (X : zX) (H : Heap) (locs : List Loc) (Q : State → Prop) (g : JFrame) : Prop :=
  W X.1 X.2.1 X.2.2.1 X.2.2.2.1 X.2.2.2.2.1 X.2.2.2.2.2.1 X.2.2.2.2.2.2.1 X.2.2.2.2.2.2.2.1 X.2.2.2.2.2.2.2.2.1 X.2.2.2.2.2.2.2.2.2.1 H locs X.2.2.2.2.2.2.2.2.2.2.1 X.2.2.2.2.2.2.2.2.2.2.2 Q g
abbrev zX.s (X : zX) : State := X.2.2.2.2.1
abbrev zX.R (X : zX) : Room := X.2.2.2.1
abbrev zX.m (X : zX) : MethodId := X.2.2.2.2.2.1
abbrev zX.args (X : zX) : Array Value := X.2.2.2.2.2.2.1
abbrev zX.meth (X : zX) : Method := X.2.2.2.2.2.2.2.2.1
abbrev zX.c (X : zX) : Code := X.2.2.2.2.2.2.2.2.2.1
def Z (X : zX) (G : zG) (A : Nat → Prop) (nL : Nat) (Q : State → Prop) (K : zK) (pc : Nat) (lv : List (Nat × Value)) (st : List Value) : Prop :=
  ∀ (f : Nat → va_E) (H : Heap) (locs : List Loc) (ls : Array Slot), K f → va_P G.1 G.2.1 (va_pl G.2.2.2 f) H → va_S A X.s.heap H locs → lv_has ls nL lv → zW X H locs Q (F0 X.m pc ls st)
/-- what a walk stands on: machine, code, words, tables, the pool's addresses apart and its own, depth d of calls that there is room for -/
def zC (X : zX) (G : zG) (A : Nat → Prop) (cc : ByteArray) (nL : Nat) (own : String) (fr lo : Nat) : Prop :=
  CallFix X.1 X.m X.c cc nL X.s X.args zT own ∧ va_K G.1 G.2.1 G.2.2.1 X.s ∧ G.2.2.2.Nodup ∧ (∀ q ∈ G.2.2.2, A q) ∧ X.meth.locks = false ∧ X.2.2.2.2.2.2.2.2.2.2.1 ≤ X.R.cells ∧ X.2.2.2.2.2.2.2.2.2.2.2 ≤ X.R.slots ∧ fr ≤ X.R.frames ∧ lo ≤ X.R.locals
theorem zD {L : List Nat} {A : Nat → Prop} {f : Nat → va_E} (hn : L.Nodup) (hA : ∀ q ∈ L, A q) : va_D A (va_pl L f) := by
  refine ⟨fun i j p q hi hj e => ?_, fun k q hk => ?_⟩
  · simp only [va_pl, List.getElem?_map] at hi hj
    cases h1 : L[i]? with
    | none => rw [h1] at hi; cases hi
    | some a =>
      cases h2 : L[j]? with
      | none => rw [h2] at hj; cases hj
      | some b =>
        rw [h1] at hi; rw [h2] at hj
        cases hi; cases hj
        have e : a = b := e
        subst e
        have l1 := (List.getElem?_eq_some_iff.mp h1).1
        exact (List.getElem?_inj l1 hn).mp (h1.trans h2.symm)
  · simp only [va_pl, List.getElem?_map] at hk
    cases h1 : L[k]? with
    | none => rw [h1] at hk; cases hk
    | some a =>
      rw [h1] at hk
      cases hk
      exact hA a (List.mem_of_getElem? h1)
section ZR
variable {X : zX} {G : zG} {A : Nat → Prop} {nL : Nat} {Q : State → Prop} {K : zK} {pc : Nat} {lv : List (Nat × Value)} {st : List Value} {cc : ByteArray} {own : String} {fr lo : Nat}
theorem Z_iconst (C : zC X G A cc nL own fr lo) {n : Int} {v : Int32} (hd : decode cc pc = .ok (.iconst n, 1)) (hv : Int32.ofInt n = v) (k : Z X G A nL Q K (pc + 1) lv (.int v :: st)) : Z X G A nL Q K pc lv (st) := fun f H locs ls hf hP hS hl => lv_iconst C.1.1 C.1.2.1 hd hv (k f H locs ls hf hP hS hl)
theorem Z_bipush (C : zC X G A cc nL own fr lo) {n : Int} {v : Int32} (hd : decode cc pc = .ok (.bipush n, 2)) (hv : (Int8.ofInt n).toInt32 = v) (k : Z X G A nL Q K (pc + 2) lv (.int v :: st)) : Z X G A nL Q K pc lv (st) := fun f H locs ls hf hP hS hl => lv_bipush C.1.1 C.1.2.1 hd hv (k f H locs ls hf hP hS hl)
theorem Z_sipush (C : zC X G A cc nL own fr lo) {n : Int} {v : Int32} (hd : decode cc pc = .ok (.sipush n, 3)) (hv : (Int16.ofInt n).toInt32 = v) (k : Z X G A nL Q K (pc + 3) lv (.int v :: st)) : Z X G A nL Q K pc lv (st) := fun f H locs ls hf hP hS hl => lv_sipush C.1.1 C.1.2.1 hd hv (k f H locs ls hf hP hS hl)
theorem Z_lconst (C : zC X G A cc nL own fr lo) {n : Fin 2} {v : Int64} (hd : decode cc pc = .ok (.lconst n, 1)) (hv : Int64.ofNat (n : Nat) = v) (k : Z X G A nL Q K (pc + 1) lv (.long v :: st)) : Z X G A nL Q K pc lv (st) := fun f H locs ls hf hP hS hl => lv_lconst C.1.1 C.1.2.1 hd hv (k f H locs ls hf hP hS hl)
theorem Z_iload_n (C : zC X G A cc nL own fr lo) (j : Nat) {k : Fin 4} {i : Nat} {x : Int32} (hd : decode cc pc = .ok (.iload_n k, 1)) (hi : (k : Nat) = i) (hx : lv[j]? = some (i, .int x)) (k : Z X G A nL Q K (pc + 1) lv (.int x :: st)) : Z X G A nL Q K pc lv (st) := fun f H locs ls hf hP hS hl => lv_iload_n C.1.1 C.1.2.1 hd hi (lv_at hl j hx) (k f H locs ls hf hP hS hl)
theorem Z_iload (C : zC X G A cc nL own fr lo) (j : Nat) {i : Nat} {x : Int32} (hd : decode cc pc = .ok (.iload i, 2)) (hx : lv[j]? = some (i, .int x)) (k : Z X G A nL Q K (pc + 2) lv (.int x :: st)) : Z X G A nL Q K pc lv (st) := fun f H locs ls hf hP hS hl => lv_iload C.1.1 C.1.2.1 hd (lv_at hl j hx) (k f H locs ls hf hP hS hl)
theorem Z_lload_n (C : zC X G A cc nL own fr lo) (j : Nat) {k : Fin 4} {i : Nat} {x : Int64} (hd : decode cc pc = .ok (.lload_n k, 1)) (hi : (k : Nat) = i) (hx : lv[j]? = some (i, .long x)) (k : Z X G A nL Q K (pc + 1) lv (.long x :: st)) : Z X G A nL Q K pc lv (st) := fun f H locs ls hf hP hS hl => lv_lload_n C.1.1 C.1.2.1 hd hi (lv_at hl j hx) (k f H locs ls hf hP hS hl)
theorem Z_lload (C : zC X G A cc nL own fr lo) (j : Nat) {i : Nat} {x : Int64} (hd : decode cc pc = .ok (.lload i, 2)) (hx : lv[j]? = some (i, .long x)) (k : Z X G A nL Q K (pc + 2) lv (.long x :: st)) : Z X G A nL Q K pc lv (st) := fun f H locs ls hf hP hS hl => lv_lload C.1.1 C.1.2.1 hd (lv_at hl j hx) (k f H locs ls hf hP hS hl)
theorem Z_aload_n (C : zC X G A cc nL own fr lo) (j : Nat) {k : Fin 4} {i : Nat} {x : Nat} (hd : decode cc pc = .ok (.aload_n k, 1)) (hi : (k : Nat) = i) (hx : lv[j]? = some (i, .ref x)) (k : Z X G A nL Q K (pc + 1) lv (.ref x :: st)) : Z X G A nL Q K pc lv (st) := fun f H locs ls hf hP hS hl => lv_aload_n C.1.1 C.1.2.1 hd hi (lv_at hl j hx) (k f H locs ls hf hP hS hl)
theorem Z_aload (C : zC X G A cc nL own fr lo) (j : Nat) {i : Nat} {x : Nat} (hd : decode cc pc = .ok (.aload i, 2)) (hx : lv[j]? = some (i, .ref x)) (k : Z X G A nL Q K (pc + 2) lv (.ref x :: st)) : Z X G A nL Q K pc lv (st) := fun f H locs ls hf hP hS hl => lv_aload C.1.1 C.1.2.1 hd (lv_at hl j hx) (k f H locs ls hf hP hS hl)
theorem Z_istore_n {lv' : List (Nat × Value)} (C : zC X G A cc nL own fr lo) {k : Fin 4} {i : Nat} {x : Int32} (hd : decode cc pc = .ok (.istore_n k, 1)) (hi : (k : Nat) = i) (hn : i < nL) (he : (i, Value.int x) :: lv.filter (fun q => !(q.1 == i) && !(q.1 + 1 == i && q.2.category == 2)) = lv') (k : Z X G A nL Q K (pc + 1) lv' st) : Z X G A nL Q K pc lv (.int x :: st) := fun f H locs ls hf hP hS hl => lv_istore_n C.1.1 C.1.2.1 hd hi hl hn he (fun ls hl => k f H locs ls hf hP hS hl)
theorem Z_istore {lv' : List (Nat × Value)} (C : zC X G A cc nL own fr lo) {i : Nat} {x : Int32} (hd : decode cc pc = .ok (.istore i, 2)) (hn : i < nL) (he : (i, Value.int x) :: lv.filter (fun q => !(q.1 == i) && !(q.1 + 1 == i && q.2.category == 2)) = lv') (k : Z X G A nL Q K (pc + 2) lv' st) : Z X G A nL Q K pc lv (.int x :: st) := fun f H locs ls hf hP hS hl => lv_istore C.1.1 C.1.2.1 hd hl hn he (fun ls hl => k f H locs ls hf hP hS hl)
theorem Z_astore_n {lv' : List (Nat × Value)} (C : zC X G A cc nL own fr lo) {k : Fin 4} {i : Nat} {x : Nat} (hd : decode cc pc = .ok (.astore_n k, 1)) (hi : (k : Nat) = i) (hn : i < nL) (he : (i, Value.ref x) :: lv.filter (fun q => !(q.1 == i) && !(q.1 + 1 == i && q.2.category == 2)) = lv') (k : Z X G A nL Q K (pc + 1) lv' st) : Z X G A nL Q K pc lv (.ref x :: st) := fun f H locs ls hf hP hS hl => lv_astore_n C.1.1 C.1.2.1 hd hi hl hn he (fun ls hl => k f H locs ls hf hP hS hl)
theorem Z_astore {lv' : List (Nat × Value)} (C : zC X G A cc nL own fr lo) {i : Nat} {x : Nat} (hd : decode cc pc = .ok (.astore i, 2)) (hn : i < nL) (he : (i, Value.ref x) :: lv.filter (fun q => !(q.1 == i) && !(q.1 + 1 == i && q.2.category == 2)) = lv') (k : Z X G A nL Q K (pc + 2) lv' st) : Z X G A nL Q K pc lv (.ref x :: st) := fun f H locs ls hf hP hS hl => lv_astore C.1.1 C.1.2.1 hd hl hn he (fun ls hl => k f H locs ls hf hP hS hl)
theorem Z_lstore_n {lv' : List (Nat × Value)} (C : zC X G A cc nL own fr lo) {k : Fin 4} {i : Nat} {x : Int64} (hd : decode cc pc = .ok (.lstore_n k, 1)) (hi : (k : Nat) = i) (hn : i + 1 < nL) (he : (i, Value.long x) :: lv.filter (fun q => !(q.1 == i) && (!(q.1 == i + 1) && !(q.1 + 1 == i && q.2.category == 2))) = lv') (k : Z X G A nL Q K (pc + 1) lv' st) : Z X G A nL Q K pc lv (.long x :: st) := fun f H locs ls hf hP hS hl => lv_lstore_n C.1.1 C.1.2.1 hd hi hl hn he (fun ls hl => k f H locs ls hf hP hS hl)
theorem Z_lstore {lv' : List (Nat × Value)} (C : zC X G A cc nL own fr lo) {i : Nat} {x : Int64} (hd : decode cc pc = .ok (.lstore i, 2)) (hn : i + 1 < nL) (he : (i, Value.long x) :: lv.filter (fun q => !(q.1 == i) && (!(q.1 == i + 1) && !(q.1 + 1 == i && q.2.category == 2))) = lv') (k : Z X G A nL Q K (pc + 2) lv' st) : Z X G A nL Q K pc lv (.long x :: st) := fun f H locs ls hf hP hS hl => lv_lstore C.1.1 C.1.2.1 hd hl hn he (fun ls hl => k f H locs ls hf hP hS hl)
theorem Z_iinc {lv' : List (Nat × Value)} (j : Nat) (C : zC X G A cc nL own fr lo) {i : Nat} {n : Int} {x v : Int32} (hd : decode cc pc = .ok (.iinc i n, 3)) (hx : lv[j]? = some (i, .int x)) (hv : x + Int32.ofInt n = v) (hn : i < nL) (he : (i, Value.int v) :: lv.filter (fun q => !(q.1 == i) && !(q.1 + 1 == i && q.2.category == 2)) = lv') (k : Z X G A nL Q K (pc + 3) lv' st) : Z X G A nL Q K pc lv st := fun f H locs ls hf hP hS hl => lv_iinc C.1.1 C.1.2.1 hd hl hx hv hn he (fun ls hl => k f H locs ls hf hP hS hl)
theorem Z_iadd (C : zC X G A cc nL own fr lo) {x y : Int32} (hd : decode cc pc = .ok (.iadd, 1)) (k : Z X G A nL Q K (pc + 1) lv (.int (x + y) :: st)) : Z X G A nL Q K pc lv (.int y :: .int x :: st) := fun f H locs ls hf hP hS hl => lv_iadd C.1.1 C.1.2.1 hd (k f H locs ls hf hP hS hl)
theorem Z_isub (C : zC X G A cc nL own fr lo) {x y : Int32} (hd : decode cc pc = .ok (.isub, 1)) (k : Z X G A nL Q K (pc + 1) lv (.int (x - y) :: st)) : Z X G A nL Q K pc lv (.int y :: .int x :: st) := fun f H locs ls hf hP hS hl => lv_isub C.1.1 C.1.2.1 hd (k f H locs ls hf hP hS hl)
theorem Z_imul (C : zC X G A cc nL own fr lo) {x y : Int32} (hd : decode cc pc = .ok (.imul, 1)) (k : Z X G A nL Q K (pc + 1) lv (.int (x * y) :: st)) : Z X G A nL Q K pc lv (.int y :: .int x :: st) := fun f H locs ls hf hP hS hl => lv_imul C.1.1 C.1.2.1 hd (k f H locs ls hf hP hS hl)
theorem Z_iand (C : zC X G A cc nL own fr lo) {x y : Int32} (hd : decode cc pc = .ok (.iand, 1)) (k : Z X G A nL Q K (pc + 1) lv (.int (x &&& y) :: st)) : Z X G A nL Q K pc lv (.int y :: .int x :: st) := fun f H locs ls hf hP hS hl => lv_iand C.1.1 C.1.2.1 hd (k f H locs ls hf hP hS hl)
theorem Z_ior (C : zC X G A cc nL own fr lo) {x y : Int32} (hd : decode cc pc = .ok (.ior, 1)) (k : Z X G A nL Q K (pc + 1) lv (.int (x ||| y) :: st)) : Z X G A nL Q K pc lv (.int y :: .int x :: st) := fun f H locs ls hf hP hS hl => lv_ior C.1.1 C.1.2.1 hd (k f H locs ls hf hP hS hl)
theorem Z_ixor (C : zC X G A cc nL own fr lo) {x y : Int32} (hd : decode cc pc = .ok (.ixor, 1)) (k : Z X G A nL Q K (pc + 1) lv (.int (x ^^^ y) :: st)) : Z X G A nL Q K pc lv (.int y :: .int x :: st) := fun f H locs ls hf hP hS hl => lv_ixor C.1.1 C.1.2.1 hd (k f H locs ls hf hP hS hl)
theorem Z_ishl (C : zC X G A cc nL own fr lo) {x y : Int32} (hd : decode cc pc = .ok (.ishl, 1)) (k : Z X G A nL Q K (pc + 1) lv (.int (x <<< (y &&& 31)) :: st)) : Z X G A nL Q K pc lv (.int y :: .int x :: st) := fun f H locs ls hf hP hS hl => lv_ishl C.1.1 C.1.2.1 hd (k f H locs ls hf hP hS hl)
theorem Z_ishr (C : zC X G A cc nL own fr lo) {x y : Int32} (hd : decode cc pc = .ok (.ishr, 1)) (k : Z X G A nL Q K (pc + 1) lv (.int (x >>> (y &&& 31)) :: st)) : Z X G A nL Q K pc lv (.int y :: .int x :: st) := fun f H locs ls hf hP hS hl => lv_ishr C.1.1 C.1.2.1 hd (k f H locs ls hf hP hS hl)
theorem Z_idiv (C : zC X G A cc nL own fr lo) {x y : Int32} (hd : decode cc pc = .ok (.idiv, 1)) (hne : ¬ y = 0) (k : Z X G A nL Q K (pc + 1) lv (.int (x / y) :: st)) : Z X G A nL Q K pc lv (.int y :: .int x :: st) := fun f H locs ls hf hP hS hl => lv_idiv C.1.1 C.1.2.1 hd hne (k f H locs ls hf hP hS hl)
theorem Z_irem (C : zC X G A cc nL own fr lo) {x y : Int32} (hd : decode cc pc = .ok (.irem, 1)) (hne : ¬ y = 0) (k : Z X G A nL Q K (pc + 1) lv (.int (x - x / y * y) :: st)) : Z X G A nL Q K pc lv (.int y :: .int x :: st) := fun f H locs ls hf hP hS hl => lv_irem C.1.1 C.1.2.1 hd hne (k f H locs ls hf hP hS hl)
theorem Z_ldiv (C : zC X G A cc nL own fr lo) {x y : Int64} (hd : decode cc pc = .ok (.ldiv, 1)) (hne : ¬ y = 0) (k : Z X G A nL Q K (pc + 1) lv (.long (x / y) :: st)) : Z X G A nL Q K pc lv (.long y :: .long x :: st) := fun f H locs ls hf hP hS hl => lv_ldiv C.1.1 C.1.2.1 hd hne (k f H locs ls hf hP hS hl)
theorem Z_lrem (C : zC X G A cc nL own fr lo) {x y : Int64} (hd : decode cc pc = .ok (.lrem, 1)) (hne : ¬ y = 0) (k : Z X G A nL Q K (pc + 1) lv (.long (x - x / y * y) :: st)) : Z X G A nL Q K pc lv (.long y :: .long x :: st) := fun f H locs ls hf hP hS hl => lv_lrem C.1.1 C.1.2.1 hd hne (k f H locs ls hf hP hS hl)
theorem Z_ineg (C : zC X G A cc nL own fr lo) {x : Int32} (hd : decode cc pc = .ok (.ineg, 1)) (k : Z X G A nL Q K (pc + 1) lv (.int (-x) :: st)) : Z X G A nL Q K pc lv (.int x :: st) := fun f H locs ls hf hP hS hl => lv_ineg C.1.1 C.1.2.1 hd (k f H locs ls hf hP hS hl)
theorem Z_ladd (C : zC X G A cc nL own fr lo) {x y : Int64} (hd : decode cc pc = .ok (.ladd, 1)) (k : Z X G A nL Q K (pc + 1) lv (.long (x + y) :: st)) : Z X G A nL Q K pc lv (.long y :: .long x :: st) := fun f H locs ls hf hP hS hl => lv_ladd C.1.1 C.1.2.1 hd (k f H locs ls hf hP hS hl)
theorem Z_lsub (C : zC X G A cc nL own fr lo) {x y : Int64} (hd : decode cc pc = .ok (.lsub, 1)) (k : Z X G A nL Q K (pc + 1) lv (.long (x - y) :: st)) : Z X G A nL Q K pc lv (.long y :: .long x :: st) := fun f H locs ls hf hP hS hl => lv_lsub C.1.1 C.1.2.1 hd (k f H locs ls hf hP hS hl)
theorem Z_lmul (C : zC X G A cc nL own fr lo) {x y : Int64} (hd : decode cc pc = .ok (.lmul, 1)) (k : Z X G A nL Q K (pc + 1) lv (.long (x * y) :: st)) : Z X G A nL Q K pc lv (.long y :: .long x :: st) := fun f H locs ls hf hP hS hl => lv_lmul C.1.1 C.1.2.1 hd (k f H locs ls hf hP hS hl)
theorem Z_land (C : zC X G A cc nL own fr lo) {x y : Int64} (hd : decode cc pc = .ok (.land, 1)) (k : Z X G A nL Q K (pc + 1) lv (.long (x &&& y) :: st)) : Z X G A nL Q K pc lv (.long y :: .long x :: st) := fun f H locs ls hf hP hS hl => lv_land C.1.1 C.1.2.1 hd (k f H locs ls hf hP hS hl)
theorem Z_lor (C : zC X G A cc nL own fr lo) {x y : Int64} (hd : decode cc pc = .ok (.lor, 1)) (k : Z X G A nL Q K (pc + 1) lv (.long (x ||| y) :: st)) : Z X G A nL Q K pc lv (.long y :: .long x :: st) := fun f H locs ls hf hP hS hl => lv_lor C.1.1 C.1.2.1 hd (k f H locs ls hf hP hS hl)
theorem Z_lxor (C : zC X G A cc nL own fr lo) {x y : Int64} (hd : decode cc pc = .ok (.lxor, 1)) (k : Z X G A nL Q K (pc + 1) lv (.long (x ^^^ y) :: st)) : Z X G A nL Q K pc lv (.long y :: .long x :: st) := fun f H locs ls hf hP hS hl => lv_lxor C.1.1 C.1.2.1 hd (k f H locs ls hf hP hS hl)
theorem Z_iushr (C : zC X G A cc nL own fr lo) {x y : Int32} (hd : decode cc pc = .ok (.iushr, 1)) (k : Z X G A nL Q K (pc + 1) lv (.int ((x.toUInt32 >>> (y.toUInt32 &&& Int32.toUInt32 31)).toInt32) :: st)) : Z X G A nL Q K pc lv (.int y :: .int x :: st) := fun f H locs ls hf hP hS hl => lv_iushr C.1.1 C.1.2.1 hd rfl (k f H locs ls hf hP hS hl)
theorem Z_lushr (C : zC X G A cc nL own fr lo) {x : Int64} {y : Int32} (hd : decode cc pc = .ok (.lushr, 1)) (k : Z X G A nL Q K (pc + 1) lv (.long ((x.toUInt64 >>> (y.toInt64.toUInt64 &&& Int64.toUInt64 63)).toInt64) :: st)) : Z X G A nL Q K pc lv (.int y :: .long x :: st) := fun f H locs ls hf hP hS hl => lv_lushr C.1.1 C.1.2.1 hd rfl (k f H locs ls hf hP hS hl)
theorem Z_lshl (C : zC X G A cc nL own fr lo) {x : Int64} {y : Int32} (hd : decode cc pc = .ok (.lshl, 1)) (k : Z X G A nL Q K (pc + 1) lv (.long (x <<< (y.toInt64 &&& 63)) :: st)) : Z X G A nL Q K pc lv (.int y :: .long x :: st) := fun f H locs ls hf hP hS hl => lv_lshl C.1.1 C.1.2.1 hd rfl (k f H locs ls hf hP hS hl)
theorem Z_lshr (C : zC X G A cc nL own fr lo) {x : Int64} {y : Int32} (hd : decode cc pc = .ok (.lshr, 1)) (k : Z X G A nL Q K (pc + 1) lv (.long (x >>> (y.toInt64 &&& 63)) :: st)) : Z X G A nL Q K pc lv (.int y :: .long x :: st) := fun f H locs ls hf hP hS hl => lv_lshr C.1.1 C.1.2.1 hd rfl (k f H locs ls hf hP hS hl)
theorem Z_i2l (C : zC X G A cc nL own fr lo) {x : Int32} (hd : decode cc pc = .ok (.i2l, 1)) (k : Z X G A nL Q K (pc + 1) lv (.long x.toInt64 :: st)) : Z X G A nL Q K pc lv (.int x :: st) := fun f H locs ls hf hP hS hl => lv_i2l C.1.1 C.1.2.1 hd rfl (k f H locs ls hf hP hS hl)
theorem Z_l2i (C : zC X G A cc nL own fr lo) {x : Int64} (hd : decode cc pc = .ok (.l2i, 1)) (k : Z X G A nL Q K (pc + 1) lv (.int x.toInt32 :: st)) : Z X G A nL Q K pc lv (.long x :: st) := fun f H locs ls hf hP hS hl => lv_l2i C.1.1 C.1.2.1 hd rfl (k f H locs ls hf hP hS hl)
theorem Z_i2b (C : zC X G A cc nL own fr lo) {x : Int32} (hd : decode cc pc = .ok (.i2b, 1)) (k : Z X G A nL Q K (pc + 1) lv (.int x.toInt8.toInt32 :: st)) : Z X G A nL Q K pc lv (.int x :: st) := fun f H locs ls hf hP hS hl => lv_i2b C.1.1 C.1.2.1 hd rfl (k f H locs ls hf hP hS hl)
theorem Z_dup (C : zC X G A cc nL own fr lo) {va : Value} (hd : decode cc pc = .ok (.dup, 1)) (hva : va.category = 1) (k : Z X G A nL Q K (pc + 1) lv (va :: va :: st)) : Z X G A nL Q K pc lv (va :: st) := fun f H locs ls hf hP hS hl => lv_dup C.1.1 C.1.2.1 hd hva (k f H locs ls hf hP hS hl)
theorem Z_pop (C : zC X G A cc nL own fr lo) {va : Value} (hd : decode cc pc = .ok (.pop, 1)) (hva : va.category = 1) (k : Z X G A nL Q K (pc + 1) lv (st)) : Z X G A nL Q K pc lv (va :: st) := fun f H locs ls hf hP hS hl => lv_pop C.1.1 C.1.2.1 hd hva (k f H locs ls hf hP hS hl)
theorem Z_dup_x1 (C : zC X G A cc nL own fr lo) {va vb : Value} (hd : decode cc pc = .ok (.dup_x1, 1)) (hva : va.category = 1) (hvb : vb.category = 1) (k : Z X G A nL Q K (pc + 1) lv (va :: vb :: va :: st)) : Z X G A nL Q K pc lv (va :: vb :: st) := fun f H locs ls hf hP hS hl => lv_dup_x1 C.1.1 C.1.2.1 hd hva hvb (k f H locs ls hf hP hS hl)
theorem Z_dup_x2 (C : zC X G A cc nL own fr lo) {va vb vd : Value} (hd : decode cc pc = .ok (.dup_x2, 1)) (hva : va.category = 1) (hvb : vb.category = 1) (hvd : vd.category = 1) (k : Z X G A nL Q K (pc + 1) lv (va :: vb :: vd :: va :: st)) : Z X G A nL Q K pc lv (va :: vb :: vd :: st) := fun f H locs ls hf hP hS hl => lv_dup_x2 C.1.1 C.1.2.1 hd hva hvb hvd (k f H locs ls hf hP hS hl)
theorem Z_dup2_11 (C : zC X G A cc nL own fr lo) {va vb : Value} (hd : decode cc pc = .ok (.dup2, 1)) (hva : va.category = 1) (hvb : vb.category = 1) (k : Z X G A nL Q K (pc + 1) lv (va :: vb :: va :: vb :: st)) : Z X G A nL Q K pc lv (va :: vb :: st) := fun f H locs ls hf hP hS hl => lv_dup2_11 C.1.1 C.1.2.1 hd hva hvb (k f H locs ls hf hP hS hl)
theorem Z_goto (C : zC X G A cc nL own fr lo) {off : Int} {tgt : Nat} (hd : decode cc pc = .ok (.goto off, 3)) (ht : (pc : Int) + off = (tgt : Int)) (k : Z X G A nL Q K (tgt) lv (st)) : Z X G A nL Q K pc lv (st) := fun f H locs ls hf hP hS hl => lv_goto C.1.1 C.1.2.1 hd ht (k f H locs ls hf hP hS hl)
theorem Z_null (C : zC X G A cc nL own fr lo) (hd : decode cc pc = .ok (.aconst_null, 1)) (k : Z X G A nL Q K (pc + 1) lv (.null :: st)) : Z X G A nL Q K pc lv (st) := fun f H locs ls hf hP hS hl => lv_null C.1.1 C.1.2.1 hd (k f H locs ls hf hP hS hl)
theorem Z_if_eq {tgt : Nat} (C : zC X G A cc nL own fr lo) {x : Int32} {off : Int} (hd : decode cc pc = .ok (.ifCond .eq off, 3)) (ht : (pc : Int) + off = (tgt : Int)) (kt : x = 0 → Z X G A nL Q K tgt lv st) (kf : ¬ x = 0 → Z X G A nL Q K (pc + 3) lv st) : Z X G A nL Q K pc lv (.int x :: st) := fun f H locs ls hf hP hS hl => lv_if_eq C.1.1 C.1.2.1 hd ht (fun h => kt h f H locs ls hf hP hS hl) (fun h => kf h f H locs ls hf hP hS hl)
theorem Z_if_ne {tgt : Nat} (C : zC X G A cc nL own fr lo) {x : Int32} {off : Int} (hd : decode cc pc = .ok (.ifCond .ne off, 3)) (ht : (pc : Int) + off = (tgt : Int)) (kt : ¬ x = 0 → Z X G A nL Q K tgt lv st) (kf : x = 0 → Z X G A nL Q K (pc + 3) lv st) : Z X G A nL Q K pc lv (.int x :: st) := fun f H locs ls hf hP hS hl => lv_if_ne C.1.1 C.1.2.1 hd ht (fun h => kt h f H locs ls hf hP hS hl) (fun h => kf h f H locs ls hf hP hS hl)
theorem Z_if_lt {tgt : Nat} (C : zC X G A cc nL own fr lo) {x : Int32} {off : Int} (hd : decode cc pc = .ok (.ifCond .lt off, 3)) (ht : (pc : Int) + off = (tgt : Int)) (kt : x < 0 → Z X G A nL Q K tgt lv st) (kf : ¬ x < 0 → Z X G A nL Q K (pc + 3) lv st) : Z X G A nL Q K pc lv (.int x :: st) := fun f H locs ls hf hP hS hl => lv_if_lt C.1.1 C.1.2.1 hd ht (fun h => kt h f H locs ls hf hP hS hl) (fun h => kf h f H locs ls hf hP hS hl)
theorem Z_if_ge {tgt : Nat} (C : zC X G A cc nL own fr lo) {x : Int32} {off : Int} (hd : decode cc pc = .ok (.ifCond .ge off, 3)) (ht : (pc : Int) + off = (tgt : Int)) (kt : 0 ≤ x → Z X G A nL Q K tgt lv st) (kf : ¬ 0 ≤ x → Z X G A nL Q K (pc + 3) lv st) : Z X G A nL Q K pc lv (.int x :: st) := fun f H locs ls hf hP hS hl => lv_if_ge C.1.1 C.1.2.1 hd ht (fun h => kt h f H locs ls hf hP hS hl) (fun h => kf h f H locs ls hf hP hS hl)
theorem Z_if_gt {tgt : Nat} (C : zC X G A cc nL own fr lo) {x : Int32} {off : Int} (hd : decode cc pc = .ok (.ifCond .gt off, 3)) (ht : (pc : Int) + off = (tgt : Int)) (kt : 0 < x → Z X G A nL Q K tgt lv st) (kf : ¬ 0 < x → Z X G A nL Q K (pc + 3) lv st) : Z X G A nL Q K pc lv (.int x :: st) := fun f H locs ls hf hP hS hl => lv_if_gt C.1.1 C.1.2.1 hd ht (fun h => kt h f H locs ls hf hP hS hl) (fun h => kf h f H locs ls hf hP hS hl)
theorem Z_if_le {tgt : Nat} (C : zC X G A cc nL own fr lo) {x : Int32} {off : Int} (hd : decode cc pc = .ok (.ifCond .le off, 3)) (ht : (pc : Int) + off = (tgt : Int)) (kt : x ≤ 0 → Z X G A nL Q K tgt lv st) (kf : ¬ x ≤ 0 → Z X G A nL Q K (pc + 3) lv st) : Z X G A nL Q K pc lv (.int x :: st) := fun f H locs ls hf hP hS hl => lv_if_le C.1.1 C.1.2.1 hd ht (fun h => kt h f H locs ls hf hP hS hl) (fun h => kf h f H locs ls hf hP hS hl)
theorem Z_icmp_eq {tgt : Nat} (C : zC X G A cc nL own fr lo) {x y : Int32} {off : Int} (hd : decode cc pc = .ok (.if_icmp .eq off, 3)) (ht : (pc : Int) + off = (tgt : Int)) (kt : x = y → Z X G A nL Q K tgt lv st) (kf : ¬ x = y → Z X G A nL Q K (pc + 3) lv st) : Z X G A nL Q K pc lv (.int y :: .int x :: st) := fun f H locs ls hf hP hS hl => lv_icmp_eq C.1.1 C.1.2.1 hd ht (fun h => kt h f H locs ls hf hP hS hl) (fun h => kf h f H locs ls hf hP hS hl)
theorem Z_icmp_ne {tgt : Nat} (C : zC X G A cc nL own fr lo) {x y : Int32} {off : Int} (hd : decode cc pc = .ok (.if_icmp .ne off, 3)) (ht : (pc : Int) + off = (tgt : Int)) (kt : ¬ x = y → Z X G A nL Q K tgt lv st) (kf : x = y → Z X G A nL Q K (pc + 3) lv st) : Z X G A nL Q K pc lv (.int y :: .int x :: st) := fun f H locs ls hf hP hS hl => lv_icmp_ne C.1.1 C.1.2.1 hd ht (fun h => kt h f H locs ls hf hP hS hl) (fun h => kf h f H locs ls hf hP hS hl)
theorem Z_icmp_lt {tgt : Nat} (C : zC X G A cc nL own fr lo) {x y : Int32} {off : Int} (hd : decode cc pc = .ok (.if_icmp .lt off, 3)) (ht : (pc : Int) + off = (tgt : Int)) (kt : x < y → Z X G A nL Q K tgt lv st) (kf : ¬ x < y → Z X G A nL Q K (pc + 3) lv st) : Z X G A nL Q K pc lv (.int y :: .int x :: st) := fun f H locs ls hf hP hS hl => lv_icmp_lt C.1.1 C.1.2.1 hd ht (fun h => kt h f H locs ls hf hP hS hl) (fun h => kf h f H locs ls hf hP hS hl)
theorem Z_icmp_ge {tgt : Nat} (C : zC X G A cc nL own fr lo) {x y : Int32} {off : Int} (hd : decode cc pc = .ok (.if_icmp .ge off, 3)) (ht : (pc : Int) + off = (tgt : Int)) (kt : y ≤ x → Z X G A nL Q K tgt lv st) (kf : ¬ y ≤ x → Z X G A nL Q K (pc + 3) lv st) : Z X G A nL Q K pc lv (.int y :: .int x :: st) := fun f H locs ls hf hP hS hl => lv_icmp_ge C.1.1 C.1.2.1 hd ht (fun h => kt h f H locs ls hf hP hS hl) (fun h => kf h f H locs ls hf hP hS hl)
theorem Z_icmp_gt {tgt : Nat} (C : zC X G A cc nL own fr lo) {x y : Int32} {off : Int} (hd : decode cc pc = .ok (.if_icmp .gt off, 3)) (ht : (pc : Int) + off = (tgt : Int)) (kt : y < x → Z X G A nL Q K tgt lv st) (kf : ¬ y < x → Z X G A nL Q K (pc + 3) lv st) : Z X G A nL Q K pc lv (.int y :: .int x :: st) := fun f H locs ls hf hP hS hl => lv_icmp_gt C.1.1 C.1.2.1 hd ht (fun h => kt h f H locs ls hf hP hS hl) (fun h => kf h f H locs ls hf hP hS hl)
theorem Z_icmp_le {tgt : Nat} (C : zC X G A cc nL own fr lo) {x y : Int32} {off : Int} (hd : decode cc pc = .ok (.if_icmp .le off, 3)) (ht : (pc : Int) + off = (tgt : Int)) (kt : x ≤ y → Z X G A nL Q K tgt lv st) (kf : ¬ x ≤ y → Z X G A nL Q K (pc + 3) lv st) : Z X G A nL Q K pc lv (.int y :: .int x :: st) := fun f H locs ls hf hP hS hl => lv_icmp_le C.1.1 C.1.2.1 hd ht (fun h => kt h f H locs ls hf hP hS hl) (fun h => kf h f H locs ls hf hP hS hl)
theorem Z_ifnonnull (C : zC X G A cc nL own fr lo) {x : Nat} {off : Int} {tgt : Nat} (hd : decode cc pc = .ok (.ifnonnull off, 3)) (ht : (pc : Int) + off = (tgt : Int)) (k : Z X G A nL Q K (tgt) lv (st)) : Z X G A nL Q K pc lv (.ref x :: st) := fun f H locs ls hf hP hS hl => lv_ifnonnull C.1.1 C.1.2.1 hd ht (k f H locs ls hf hP hS hl)
theorem Z_ifnonnullN (C : zC X G A cc nL own fr lo) {off : Int} (hd : decode cc pc = .ok (.ifnonnull off, 3)) (k : Z X G A nL Q K (pc + 3) lv (st)) : Z X G A nL Q K pc lv (.null :: st) := fun f H locs ls hf hP hS hl => lv_ifnonnullN C.1.1 C.1.2.1 hd (k f H locs ls hf hP hS hl)
theorem Z_ifnull (C : zC X G A cc nL own fr lo) {x : Nat} {off : Int} (hd : decode cc pc = .ok (.ifnull off, 3)) (k : Z X G A nL Q K (pc + 3) lv (st)) : Z X G A nL Q K pc lv (.ref x :: st) := fun f H locs ls hf hP hS hl => lv_ifnull C.1.1 C.1.2.1 hd (k f H locs ls hf hP hS hl)
theorem Z_ifnullN (C : zC X G A cc nL own fr lo) {off : Int} {tgt : Nat} (hd : decode cc pc = .ok (.ifnull off, 3)) (ht : (pc : Int) + off = (tgt : Int)) (k : Z X G A nL Q K (tgt) lv (st)) : Z X G A nL Q K pc lv (.null :: st) := fun f H locs ls hf hP hS hl => lv_ifnullN C.1.1 C.1.2.1 hd ht (k f H locs ls hf hP hS hl)
theorem Z_ldc (C : zC X G A cc nL own fr lo) {index : Nat} {v : Int32} (hw : Cond.constant own index v ∈ zT) (hd : decode cc pc = .ok (.ldc index, 2)) (k : Z X G A nL Q K (pc + 2) lv (.int v :: st)) : Z X G A nL Q K pc lv st := fun f H locs ls hf hP hS hl => lv_ldc C.1.1 C.1.2.1 C.1.2.2.2.1 (C.1.2.2.2.2 _ hw) hd (k f H locs ls hf hP hS hl)
theorem Z_ldcw (C : zC X G A cc nL own fr lo) {index : Nat} {v : Int32} (hw : Cond.constant own index v ∈ zT) (hd : decode cc pc = .ok (.ldc_w index, 3)) (k : Z X G A nL Q K (pc + 3) lv (.int v :: st)) : Z X G A nL Q K pc lv st := fun f H locs ls hf hP hS hl => lv_ldcw C.1.1 C.1.2.1 C.1.2.2.2.1 (C.1.2.2.2.2 _ hw) hd (k f H locs ls hf hP hS hl)
theorem Z_ldc2 (C : zC X G A cc nL own fr lo) {index : Nat} {v : Int64} (hw : Cond.constantLong own index v ∈ zT) (hd : decode cc pc = .ok (.ldc2_w index, 3)) (k : Z X G A nL Q K (pc + 3) lv (.long v :: st)) : Z X G A nL Q K pc lv st := fun f H locs ls hf hP hS hl => lv_ldc2 C.1.1 C.1.2.1 C.1.2.2.2.1 (C.1.2.2.2.2 _ hw) hd (k f H locs ls hf hP hS hl)
/-- memory: the cell at a -/
theorem Z_get (C : zC X G A cc nL own fr lo) {ref CN : String} {T : u_T} {N ci index a : Nat} {fs : List Value} (k : Nat) {v : Value} (ha : a ∈ G.2.2.2) (hm : ∀ f, K f → f a = .inr (ci, fs)) (hc : G.2.1[ci]? = some (CN, T, N)) (hin : ∀ w ∈ u_ws CN T N, w ∈ zT) (hk : k < N) (hlink : Cond.fieldLink own index ref (T k).2.1 (T k).2.2.1 ∈ zT) (href : (T k).1 = ref) (hv : fs[k]? = some v) (hd : decode cc pc = .ok (.getfield index, 3)) (kk : Z X G A nL Q K (pc + 3) lv (v :: st)) : Z X G A nL Q K pc lv (.ref a :: st) := fun f H locs ls hf hP hS hl => by
  obtain ⟨q0, hq⟩ := va_pl_get (X := []) (f := f) ha
  rw [hm f hf] at hq
  exact va_get C.1.1 C.1.2.1 C.1.2.2.2.2 hin C.1.2.2.2.1 C.2.1 hP q0 hq hc k hk (C.1.2.2.2.2 _ hlink) (fun x h => by rw [← href]; exact h) hv hd (kk f H locs ls hf hP hS hl)
theorem Z_put {K' : zK} (C : zC X G A cc nL own fr lo) {ref CN : String} {T : u_T} {N ci index a : Nat} {fs : List Value} (k : Nat) {v : Value} {ty : FieldType} (ty0 : Nat → FieldType) (ha : a ∈ G.2.2.2) (hm : ∀ f, K f → f a = .inr (ci, fs)) (hc : G.2.1[ci]? = some (CN, T, N)) (hin : ∀ w ∈ u_ws CN T N, w ∈ zT) (hty : ∀ k, k < N → parseFieldDescriptor (T k).2.2.1 = some (ty0 k)) (hnm : ∀ a, a < N → ∀ b, b < N → a ≠ b → (T a).2.1 ≠ (T b).2.1) (hk : k < N) (hlink : Cond.fieldLink own index ref (T k).2.1 (T k).2.2.1 ∈ zT) (href : (T k).1 = ref) (hfin : (T k).2.2.2 = false) (hd' : parseFieldDescriptor (T k).2.2.1 = some ty) (hn : narrow ty v = v) (hfit : fits ty v = true) (hl' : k < fs.length) (hK : ∀ f, K f → K' (va_up f a (.inr (ci, fs.set k v)))) (hd : decode cc pc = .ok (.putfield index, 3)) (kk : Z X G A nL Q K' (pc + 3) lv st) : Z X G A nL Q K pc lv (v :: .ref a :: st) := fun f H locs ls hf hP hS hl => by
  obtain ⟨q0, hq⟩ := va_pl_get (X := []) (f := f) ha
  have hD : va_D A (va_pl G.2.2.2 f) := zD C.2.2.1 C.2.2.2.1
  have hq0 := hq
  rw [hm f hf] at hq
  refine va_put C.1.1 C.1.2.1 C.1.2.2.2.2 hin ty0 hty hnm C.1.2.2.2.1 C.2.1 hP hD hS q0 hq hc k hk (C.1.2.2.2.2 _ hlink) (fun x h => by rw [← href]; exact h) hfin hd' hn hfit hl' hd (fun H1 locs1 hP1 hD1 hS1 => ?_)
  have e := va_pl_set (X := []) (e := .inr (ci, fs.set k v)) hD ha hq0
  simp only [List.nil_append] at e
  rw [e] at hP1
  exact kk _ H1 locs1 ls (hK f hf) hP1 hS1 hl
theorem Z_alen (C : zC X G A cc nL own fr lo) {a t0 : Nat} {cA : ClassId} {x : vp_A} {ty : FieldType} {v : Int32} (ha : a ∈ G.2.2.2) (hm : ∀ f, K f → f a = .inl (cA, x)) (ht : G.2.2.1[t0]? = some (cA, ty)) (hv : Int32.ofNat x.1 = v) (hd : decode cc pc = .ok (.arraylength, 1)) (kk : Z X G A nL Q K (pc + 1) lv (.int v :: st)) : Z X G A nL Q K pc lv (.ref a :: st) := fun f H locs ls hf hP hS hl => by
  obtain ⟨q0, hq⟩ := va_pl_get (X := []) (f := f) ha
  rw [hm f hf] at hq
  exact va_alen C.1.1 C.1.2.1 C.2.1 hP q0 t0 hq ht hv hd (kk f H locs ls hf hP hS hl)
theorem Z_iald (C : zC X G A cc nL own fr lo) {a t0 n : Nat} {cA : ClassId} {g : Nat → Int32} {i : Int32} (ha : a ∈ G.2.2.2) (hm : ∀ f, K f → f a = .inl (cA, n, .inl g)) (ht : G.2.2.1[t0]? = some (cA, .int)) (hin : vp_in i n) (hd : decode cc pc = .ok (.iaload, 1)) (kk : Z X G A nL Q K (pc + 1) lv (.int (g i.toNatClampNeg) :: st)) : Z X G A nL Q K pc lv (.int i :: .ref a :: st) := fun f H locs ls hf hP hS hl => by
  obtain ⟨q0, hq⟩ := va_pl_get (X := []) (f := f) ha
  rw [hm f hf] at hq
  exact va_iald C.1.1 C.1.2.1 C.2.1 hP q0 t0 hq ht hin hd (kk f H locs ls hf hP hS hl)
theorem Z_iast {K' : zK} (C : zC X G A cc nL own fr lo) {a t0 n : Nat} {cA : ClassId} {g : Nat → Int32} {i x : Int32} (ha : a ∈ G.2.2.2) (hm : ∀ f, K f → f a = .inl (cA, n, .inl g)) (ht : G.2.2.1[t0]? = some (cA, .int)) (hin : vp_in i n) (hK : ∀ f, K f → K' (va_up f a (.inl (cA, n, .inl (upd g i.toNatClampNeg x))))) (hd : decode cc pc = .ok (.iastore, 1)) (kk : Z X G A nL Q K' (pc + 1) lv st) : Z X G A nL Q K pc lv (.int x :: .int i :: .ref a :: st) := fun f H locs ls hf hP hS hl => by
  obtain ⟨q0, hq⟩ := va_pl_get (X := []) (f := f) ha
  have hD : va_D A (va_pl G.2.2.2 f) := zD C.2.2.1 C.2.2.2.1
  have hq0 := hq
  rw [hm f hf] at hq
  refine va_iast C.1.1 C.1.2.1 C.2.1 hP hD hS q0 t0 hq ht hin hd (fun H1 locs1 hP1 hD1 hS1 => ?_)
  have e := va_pl_set (X := []) (e := .inl (cA, n, .inl (upd g i.toNatClampNeg x))) hD ha hq0
  simp only [List.nil_append] at e
  rw [e] at hP1
  exact kk _ H1 locs1 ls (hK f hf) hP1 hS1 hl
theorem Z_aald (C : zC X G A cc nL own fr lo) {a t0 n : Nat} {cA : ClassId} {CN : String} {g : Nat → Option Nat} {i : Int32} (ha : a ∈ G.2.2.2) (hm : ∀ f, K f → f a = .inl (cA, n, .inr (.inr (.inr (.inr g))))) (ht : G.2.2.1[t0]? = some (cA, .object CN)) (hin : vp_in i n) (hd : decode cc pc = .ok (.aaload, 1)) (kk : Z X G A nL Q K (pc + 1) lv (va_rf (g i.toNatClampNeg) :: st)) : Z X G A nL Q K pc lv (.int i :: .ref a :: st) := fun f H locs ls hf hP hS hl => by
  obtain ⟨q0, hq⟩ := va_pl_get (X := []) (f := f) ha
  rw [hm f hf] at hq
  exact va_aldq C.1.1 C.1.2.1 C.2.1 hP q0 t0 hq ht hin hd (kk f H locs ls hf hP hS hl)
end ZR
end
section
/-! CONTRACTS: functional ones (a method over one pool: these arguments, this state: this answer, that state), returns and calls -/
def zPre (G : zG) (K : zK) (U : State) : Prop := (∃ f, K f ∧ va_P G.1 G.2.1 (va_pl G.2.2.2 f) U.heap) ∧ va_K G.1 G.2.1 G.2.2.1 U
abbrev zA (G : zG) : Nat → Prop := fun q => q ∈ G.2.2.2
def zPost (G : zG) (w : Option Value) (K : zK) : Array Value → State → Outcome → State → Prop := fun _ st oc t => (oc = .returned w ∧ zPre G K t) ∧ va_F (zA G) st t
abbrev zRm (fr lo : Nat) : Room := { frames := fr, cells := 0, slots := 0, locals := lo }
abbrev zWs (y : MethodName) (cc : ByteArray) (nL : Nat) (ret : Option FieldType) : List Cond := Cond.code y cc nL ret :: zT
/-- method y (its code, locals, kind of answer) called with As where the pool holds K: it answers w, the pool holds K' -/
def zF (l : Launch) (y : MethodName) (cc : ByteArray) (nL : Nat) (ret : Option FieldType) (fr lo : Nat) (G : zG) (As : List Value) (K : zK) (w : Option Value) (K' : zK) : Prop :=
  Met l y (zWs y cc nL ret) (zRm fr lo) (va_Pc As (zPre G K)) (zPost G w K') 0 0 (zA G)
def zQ (X : zX) (G : zG) (w : Option Value) (K : zK) : State → Prop := MQ X.2.2.2.2.2.2.2.1 (zPost G w K) X.args X.s 0 0 (zA G)
abbrev zX.l (X : zX) : Launch := X.2.1
def zN (X : zX) : Prop := X.2.2.2.2.2.2.2.2.2.2.1 = 0 ∧ X.2.2.2.2.2.2.2.2.2.2.2 = 0
/-- a contract out of a walk of the body -/
theorem zF.ofZ {l : Launch} {y : MethodName} {fr lo : Nat} {G : zG} {As : List Value} {K K' : zK} {w : Option Value} {cc : ByteArray} {nL : Nat} {ret : Option FieldType}
    (hy : plainName y.cls = true) (hL : G.2.2.2.Nodup) (hE : (lg_sl As).length ≤ nL)
    (body : ∀ X : zX, X.l = l → zN X → X.meth.sig.returnType = ret → zC X G (zA G) cc nL y.cls fr lo → Z X G (zA G) nL (zQ X G w K') K 0 (lv_args 0 As) []) : zF l y cc nL ret fr lo G As K w K' := by
  refine Met.ofW (cc := cc) (maxL := nL) (ret := ret) (ws' := zT) hy rfl ?_
  intro p e s m args below meth c s₁ B hml hv
  obtain ⟨rfl, ⟨f, hf, hP⟩, hK⟩ := hv
  have hts := atoms_spec (ws := zWs y cc nL ret) B.pre
  have hown : s.vm.findClass y.cls = some m.cls := findClass_of_methodNamed B.named
  have hl := lv_entry As (n := nL) hE
  rw [lg_entry_eq]
  exact body (p, l, e, (headSpec (zWs y cc nL ret) (zRm fr lo)).room, s, m, As.toArray, below, meth, c, 0, 0) rfl ⟨rfl, rfl⟩ B.returns ⟨⟨B.exec, B.bytes, hml, hown, fun w h => hts w (List.mem_cons_of_mem _ h)⟩, hK, hL, fun q h => h, B.notSynchronized, Nat.zero_le _, Nat.zero_le _, Nat.le_refl _, Nat.le_refl _⟩ f s.heap [] _ hf hP va_S.rf hl
section ZE
variable {X : zX} {G : zG} {nL : Nat} {K K' : zK} {w : Option Value} {pc : Nat} {lv : List (Nat × Value)} {cc : ByteArray} {own : String} {fr lo : Nat}
theorem Z_iret {v : Int32} (C : zC X G (zA G) cc nL own fr lo) (hN : zN X) (hr : X.meth.sig.returnType = some .int) (hd : decode cc pc = .ok (.ireturn, 1)) (hw : w = some (.int v)) (hK : ∀ f, K f → K' f) : Z X G (zA G) nL (zQ X G w K') K pc lv [.int v] := by
  subst hw
  intro f H locs ls hf hP hS hl
  obtain ⟨p, l, e, R, s, m, args, below, meth, c, n1, n2⟩ := X
  obtain ⟨h1, h2⟩ := hN
  dsimp only at h1 h2
  subst h1; subst h2
  exact W.iret C.1.1 C.1.2.1 hr (fun t ht hW => ⟨⟨rfl, ⟨f, hK f hf, by rw [ht]; exact hP⟩, va_K.moved hW.alike C.2.1⟩, hS.F ht⟩) hS.2.2 hd C.2.2.2.2.1
theorem Z_zret {v : Int32} {ty : FieldType} (C : zC X G (zA G) cc nL own fr lo) (hN : zN X) (hr : X.meth.sig.returnType = some ty) (hn : narrow ty (.int v) = .int v) (hd : decode cc pc = .ok (.ireturn, 1)) (hw : w = some (.int v)) (hK : ∀ f, K f → K' f) : Z X G (zA G) nL (zQ X G w K') K pc lv [.int v] := by
  subst hw
  intro f H locs ls hf hP hS hl
  obtain ⟨p, l, e, R, s, m, args, below, meth, c, n1, n2⟩ := X
  obtain ⟨h1, h2⟩ := hN
  dsimp only at h1 h2
  subst h1; subst h2
  exact W.zret C.1.1 C.1.2.1 hr hn (fun t ht hW => ⟨⟨rfl, ⟨f, hK f hf, by rw [ht]; exact hP⟩, va_K.moved hW.alike C.2.1⟩, hS.F ht⟩) hS.2.2 hd C.2.2.2.2.1
theorem Z_vret (C : zC X G (zA G) cc nL own fr lo) (hN : zN X) (hr : X.meth.sig.returnType = none) (hd : decode cc pc = .ok (.return_, 1)) (hw : w = none) (hK : ∀ f, K f → K' f) : Z X G (zA G) nL (zQ X G w K') K pc lv [] := by
  subst hw
  intro f H locs ls hf hP hS hl
  obtain ⟨p, l, e, R, s, m, args, below, meth, c, n1, n2⟩ := X
  obtain ⟨h1, h2⟩ := hN
  dsimp only at h1 h2
  subst h1; subst h2
  exact W.vret C.1.1 C.1.2.1 hr (fun t ht hW => ⟨⟨rfl, ⟨f, hK f hf, by rw [ht]; exact hP⟩, va_K.moved hW.alike C.2.1⟩, hS.F ht⟩) hS.2.2 hd C.2.2.2.2.1
theorem Z_aret {v : Value} {rt : FieldType} (C : zC X G (zA G) cc nL own fr lo) (hN : zN X) (hr : X.meth.sig.returnType = some rt) (hrt : (∃ n, rt = .object n) ∨ ∃ t, rt = .array t) (hv : v = .null ∨ ∃ a, v = .ref a) (hd : decode cc pc = .ok (.areturn, 1)) (hw : w = some v) (hK : ∀ f, K f → K' f) : Z X G (zA G) nL (zQ X G w K') K pc lv [v] := by
  subst hw
  intro f H locs ls hf hP hS hl
  obtain ⟨p, l, e, R, s, m, args, below, meth, c, n1, n2⟩ := X
  obtain ⟨h1, h2⟩ := hN
  dsimp only at h1 h2
  subst h1; subst h2
  exact W.aret C.1.1 C.1.2.1 hr hrt hv (fun t ht hW => ⟨⟨rfl, ⟨f, hK f hf, by rw [ht]; exact hP⟩, va_K.moved hW.alike C.2.1⟩, hS.F ht⟩) hS.2.2 hd C.2.2.2.2.1
end ZE
section ZCl
variable {X : zX} {G : zG} {A : Nat → Prop} {nL : Nat} {Q : State → Prop} {K K' : zK} {pc : Nat} {lv : List (Nat × Value)} {st rest As : List Value} {cc bytes : ByteArray} {own : String} {fr lo fr' lo' : Nat} {y : MethodName} {w : Option Value} {n b index maxL : Nat} {ret : Option FieldType}
theorem zPre.blind : FrameBlind (va_Pc As (zPre G K)) := fun a U g mk q => by
  obtain ⟨q0, q1, qK⟩ := q
  exact ⟨q0, q1, va_K.moved (u := U) (U := U.calling g mk a) (Vm.Alike.refl U.vm) qK⟩
theorem zPre.at {f : Nat → va_E} {H : Heap} (C : zC X G A cc nL own fr lo) (hf : K f) (hP : va_P G.1 G.2.1 (va_pl G.2.2.2 f) H) : ∀ U : State, U.heap = H → X.s.WarmedH U.vm → va_Pc As (zPre G K) As.toArray U :=
  fun U hU hW => ⟨rfl, ⟨f, hf, by rw [hU]; exact hP⟩, va_K.moved hW.alike C.2.1⟩
/-- behind the run of a call: the walk goes on with the callee's answer and state -/
theorem zBack (C : zC X G A cc nL own fr lo) {H : Heap} {locs : List Loc} {ls : Array Slot} {a : Array Value} (hS : va_S A X.s.heap H locs) (hl : lv_has ls nL lv)
    (hr : va_Run X.1 X.2.1 X.2.2.1 X.2.2.2.1 X.2.2.2.2.1 X.2.2.2.2.2.1 X.2.2.2.2.2.2.1 X.2.2.2.2.2.2.2.1 X.2.2.2.2.2.2.2.2.1 X.2.2.2.2.2.2.2.2.2.1 H locs X.2.2.2.2.2.2.2.2.2.2.1 X.2.2.2.2.2.2.2.2.2.2.2 0 0 (F0 X.m pc ls st) rest (zPost G w K' a) (zA G))
    (k : Z X G A nL Q K' (pc + 3) lv (w.toList ++ rest)) : zW X H locs Q (F0 X.m pc ls st) := by
  intro T hT XX
  obtain ⟨v, st₀, t, T', L, h0, X', hL, e1, e2, ⟨⟨hv, ⟨f', hf', hP'⟩, hK'⟩, hz, hk⟩, stp⟩ := hr T hT XX
  cases hv
  rw [h0] at hz hk
  have hS' : va_S A X.s.heap T'.heap (locs ++ L) := ⟨Nat.le_trans hS.1 (by rw [e1]; exact hz), fun q h1 h2 => by
      rw [e1, hk q (Nat.lt_of_lt_of_le h1 hS.1) (fun z => h2 (C.2.2.2.1 q z))]; exact hS.2.1 q h1 h2, fun q hq => by
      rcases List.mem_append.mp hq with h | h
      · exact hS.2.2 q h
      · exact C.2.2.2.1 _ (hL q h)⟩
  obtain ⟨t2, a1, b1⟩ := k f' T'.heap (locs ++ L) ls hf' (by rw [e1]; exact hP') hS' hl T' rfl X'
  exact ⟨t2, stp t2 a1, b1⟩
/-- what a call's words are, of an instance method; of a static one -/
def zMi (y : MethodName) (bytes : ByteArray) (maxL : Nat) (ret : Option FieldType) (n : Nat) : Prop :=
  Cond.instanceMethod y ∈ zT ∧ Cond.selects y.cls y y ∈ zT ∧ Cond.initialized y.cls ∈ zT ∧ Cond.code y bytes maxL ret ∈ zT ∧ (y.cls ≠ "java/lang/invoke/MethodHandle" ∧ y.cls ≠ "java/lang/invoke/VarHandle") ∧ (parseMethodDescriptor y.desc).map (fun d => d.parameters.length) = some n
def zMs (y : MethodName) (bytes : ByteArray) (maxL : Nat) (ret : Option FieldType) (n : Nat) : Prop :=
  Cond.static y ∈ zT ∧ Cond.initialized y.cls ∈ zT ∧ Cond.code y bytes maxL ret ∈ zT ∧ (y.cls ≠ "java/lang/invoke/MethodHandle" ∧ y.cls ≠ "java/lang/invoke/VarHandle") ∧ (parseMethodDescriptor y.desc).map (fun d => d.parameters.length) = some n
theorem zCB (C : zC X G A cc nL own fr lo) (hini : Cond.initialized y.cls ∈ zT) (hc : Cond.code y bytes maxL ret ∈ zT) (hy : y.cls ≠ "java/lang/invoke/MethodHandle" ∧ y.cls ≠ "java/lang/invoke/VarHandle") (hn : (parseMethodDescriptor y.desc).map (fun d => d.parameters.length) = some n) (hl : Cond.methodLink own index y ∈ zT) (hle : fr' + 1 ≤ fr ∧ 19 + maxL + lo' ≤ lo) :
    CallB X.R X.s X.args own index y bytes maxL ret (zWs y bytes maxL ret) (zRm fr' lo') 0 0 n := by
  have hts := C.1.2.2.2.2
  have good : ∀ w ∈ zWs y bytes maxL ret, w ∈ zT ∧ ((w.onTables && w.keeps) = true ∨ ∃ ty, w = .arrayClass ty) := by
    intro w hw
    have h1 : w ∈ zT := by
      rcases List.mem_cons.mp hw with h | h
      · rw [h]; exact hc
      · exact h
    exact ⟨h1, good_of_word (List.mem_filter.mp h1).2⟩
  have e1 := C.2.2.2.2.2.2.2.1
  have e2 := C.2.2.2.2.2.2.2.2
  refine ⟨rfl, rfl, ?_, ?_, pay_in hts good, List.mem_cons_self, hts _ hc, hts _ hini, hy, fun sig h => ?_, hts _ hl⟩
  · show fr' + 1 ≤ _; omega
  · show 8 + (maxL + 11) + lo' ≤ _; omega
  · rw [h] at hn
    exact (Option.some.inj hn).symm
theorem Z_callV (C : zC X G A cc nL own fr lo) (mi : zMi y bytes maxL ret n) (hlk : Cond.methodLink own index y ∈ zT) (hM : zF X.l y bytes maxL ret fr' lo' G (.ref b :: As) K w K') (hle : fr' + 1 ≤ fr ∧ 19 + maxL + lo' ≤ lo)
    {ci N : Nat} {T : u_T} {fs : List Value} (hb : b ∈ G.2.2.2) (hm : ∀ f, K f → f b = .inr (ci, fs)) (hcl : G.2.1[ci]? = some (y.cls, T, N)) (hn : As.length = n) (hst : st = As.reverse ++ .ref b :: rest) (hrm : (rest.map fun v => v.category).sum ≤ 8) (hd : decode cc pc = .ok (.invokevirtual index, 3))
    (k : Z X G A nL Q K' (pc + 3) lv (w.toList ++ rest)) : Z X G A nL Q K pc lv st := by
  intro f H locs ls hf hP hS hl
  obtain ⟨q0, hq⟩ := va_pl_get (X := []) (f := f) hb
  rw [hm f hf] at hq
  have hcw := zCB C mi.2.2.1 mi.2.2.2.1 mi.2.2.2.2.1 mi.2.2.2.2.2 hlk hle
  exact zBack C hS hl (va_runV (As := As) (rest := rest) C.1 hM ⟨hcw, C.1.2.2.2.2 _ mi.1, C.1.2.2.2.2 _ mi.2.1⟩ ⟨zPre.blind, va_recv C.2.1 hP hcl hq, zPre.at C hf hP⟩ rfl hn hl.1 hst (lv_room hrm) hd ⟨C.2.2.2.2.2.1, C.2.2.2.2.2.2.1⟩) k
theorem Z_callS (C : zC X G A cc nL own fr lo) (mi : zMs y bytes maxL ret n) (hlk : Cond.methodLink own index y ∈ zT) (hM : zF X.l y bytes maxL ret fr' lo' G As K w K') (hle : fr' + 1 ≤ fr ∧ 19 + maxL + lo' ≤ lo)
    (hn : As.length = n) (hst : st = As.reverse ++ rest) (hrm : (rest.map fun v => v.category).sum ≤ 8) (hd : decode cc pc = .ok (.invokestatic index, 3))
    (k : Z X G A nL Q K' (pc + 3) lv (w.toList ++ rest)) : Z X G A nL Q K pc lv st := by
  intro f H locs ls hf hP hS hl
  have hcw := zCB C mi.2.1 mi.2.2.1 mi.2.2.2.1 mi.2.2.2.2 hlk hle
  exact zBack C hS hl (va_runS (As := As) (rest := rest) C.1 hM ⟨hcw, C.1.2.2.2.2 _ mi.1⟩ ⟨zPre.blind, zPre.at C hf hP⟩ rfl hn hl.1 hst (lv_room hrm) hd ⟨C.2.2.2.2.2.1, C.2.2.2.2.2.2.1⟩) k
theorem Z_mmax {x y : Int32} (C : zC X G A cc nL own fr lo) (hlk : Cond.methodLink own index Lib.Math.max.name ∈ zT) (h1 : Cond.static Lib.Math.max.name ∈ zT) (h2 : Cond.initialized "java/lang/Math" ∈ zT) (h3 : Cond.code Lib.Math.max.name Lib.Math.max.code 2 (some .int) ∈ zT) (hle : 1 ≤ fr ∧ (rest.map fun v => v.category).sum + 13 ≤ lo) (hd : decode cc pc = .ok (.invokestatic index, 3))
    (k : Z X G A nL Q K (pc + 3) lv (.int (if x < y then y else x) :: rest)) : Z X G A nL Q K pc lv (.int y :: .int x :: rest) := fun f H locs ls hf hP hS hl =>
  va_mmax C.1.1 C.1.2.1 (by rw [hl.1]; exact C.1.2.2.1) C.1.2.2.2.1 (C.1.2.2.2.2 _ hlk) (C.1.2.2.2.2 _ h1) (C.1.2.2.2.2 _ h2) (C.1.2.2.2.2 _ h3) (Nat.le_trans hle.1 C.2.2.2.2.2.2.2.1) (Nat.le_trans hle.2 C.2.2.2.2.2.2.2.2) C.2.2.2.2.2.1 C.2.2.2.2.2.2.1 hd (k f H locs ls hf hP hS hl)
theorem Z_mmin {x y : Int32} (C : zC X G A cc nL own fr lo) (hlk : Cond.methodLink own index Lib.Math.min.name ∈ zT) (h1 : Cond.static Lib.Math.min.name ∈ zT) (h2 : Cond.initialized "java/lang/Math" ∈ zT) (h3 : Cond.code Lib.Math.min.name Lib.Math.min.code 2 (some .int) ∈ zT) (hle : 1 ≤ fr ∧ (rest.map fun v => v.category).sum + 13 ≤ lo) (hd : decode cc pc = .ok (.invokestatic index, 3))
    (k : Z X G A nL Q K (pc + 3) lv (.int (if y < x then y else x) :: rest)) : Z X G A nL Q K pc lv (.int y :: .int x :: rest) := fun f H locs ls hf hP hS hl =>
  va_mmin C.1.1 C.1.2.1 (by rw [hl.1]; exact C.1.2.2.1) C.1.2.2.2.1 (C.1.2.2.2.2 _ hlk) (C.1.2.2.2.2 _ h1) (C.1.2.2.2.2 _ h2) (C.1.2.2.2.2 _ h3) (Nat.le_trans hle.1 C.2.2.2.2.2.2.2.1) (Nat.le_trans hle.2 C.2.2.2.2.2.2.2.2) C.2.2.2.2.2.1 C.2.2.2.2.2.2.1 hd (k f H locs ls hf hP hS hl)
end ZCl
end
section
/-! THE J LAYER: a walk over ANY world B (a predicate of the heap): the law, its wrappers -/
abbrev zX.cells (X : zX) : Nat := X.2.2.2.2.2.2.2.2.2.2.1
abbrev zX.slots (X : zX) : Nat := X.2.2.2.2.2.2.2.2.2.2.2
abbrev zX.e (X : zX) : Env := X.2.2.1
abbrev zX.below (X : zX) : List Frame := X.2.2.2.2.2.2.2.1
/-- more cells and slots made -/
abbrev zX.more (X : zX) (k n : Nat) : zX := (X.1, X.2.1, X.2.2.1, X.2.2.2.1, X.2.2.2.2.1, X.2.2.2.2.2.1, X.2.2.2.2.2.2.1, X.2.2.2.2.2.2.2.1, X.2.2.2.2.2.2.2.2.1, X.2.2.2.2.2.2.2.2.2.1, X.2.2.2.2.2.2.2.2.2.2.1 + k, X.2.2.2.2.2.2.2.2.2.2.2 + n)
def J (X : zX) (A : Nat → Prop) (nL : Nat) (Q : State → Prop) (B : Heap → Prop) (pc : Nat) (lv : List (Nat × Value)) (st : List Value) : Prop :=
  ∀ (H : Heap) (locs : List Loc) (ls : Array Slot), B H → va_S A X.s.heap H locs → lv_has ls nL lv → zW X H locs Q (F0 X.m pc ls st)
def jC (X : zX) (cc : ByteArray) (nL : Nat) (own : String) (fr lo : Nat) : Prop :=
  CallFix X.1 X.m X.c cc nL X.s X.args zT own ∧ X.meth.locks = false ∧ X.cells ≤ X.R.cells ∧ X.slots ≤ X.R.slots ∧ fr ≤ X.R.frames ∧ lo ≤ X.R.locals
/-- a pool and what it holds -/
def zP (G : zG) (K : zK) (H : Heap) : Prop := ∃ f, K f ∧ va_P G.1 G.2.1 (va_pl G.2.2.2 f) H
theorem J.toZ {X : zX} {G : zG} {A : Nat → Prop} {nL : Nat} {Q : State → Prop} {K : zK} {pc : Nat} {lv : List (Nat × Value)} {st : List Value} (h : J X A nL Q (zP G K) pc lv st) : Z X G A nL Q K pc lv st := fun f H locs ls hf hP hS hl => h H locs ls ⟨f, hf, hP⟩ hS hl
theorem J.ofZ {X : zX} {G : zG} {A : Nat → Prop} {nL : Nat} {Q : State → Prop} {K : zK} {pc : Nat} {lv : List (Nat × Value)} {st : List Value} (h : Z X G A nL Q K pc lv st) : J X A nL Q (zP G K) pc lv st := fun H locs ls hB hS hl => by
  obtain ⟨f, hf, hP⟩ := hB
  exact h f H locs ls hf hP hS hl
theorem J.imp {X : zX} {A : Nat → Prop} {nL : Nat} {Q : State → Prop} {B B' : Heap → Prop} {pc : Nat} {lv : List (Nat × Value)} {st : List Value} (hB : ∀ H, B H → B' H) (h : J X A nL Q B' pc lv st) : J X A nL Q B pc lv st := fun H locs ls hb hS hl => h H locs ls (hB H hb) hS hl
theorem jC.z {X : zX} {G : zG} {A : Nat → Prop} {cc : ByteArray} {nL : Nat} {own : String} {fr lo : Nat} (C : jC X cc nL own fr lo) (hK : va_K G.1 G.2.1 G.2.2.1 X.s) (hN : G.2.2.2.Nodup) (hA : ∀ q ∈ G.2.2.2, A q) : zC X G A cc nL own fr lo := ⟨C.1, hK, hN, hA, C.2.1, C.2.2.1, C.2.2.2.1, C.2.2.2.2.1, C.2.2.2.2.2⟩
theorem zC.j {X : zX} {G : zG} {A : Nat → Prop} {cc : ByteArray} {nL : Nat} {own : String} {fr lo : Nat} (C : zC X G A cc nL own fr lo) : jC X cc nL own fr lo := ⟨C.1, C.2.2.2.2.1, C.2.2.2.2.2.1, C.2.2.2.2.2.2.1, C.2.2.2.2.2.2.2.1, C.2.2.2.2.2.2.2.2⟩
section JR
variable {X : zX} {A : Nat → Prop} {nL : Nat} {Q : State → Prop} {B : Heap → Prop} {pc : Nat} {lv : List (Nat × Value)} {st : List Value} {cc : ByteArray} {own : String} {fr lo : Nat}
theorem J_iconst (C : jC X cc nL own fr lo) {n : Int} {v : Int32} (hd : decode cc pc = .ok (.iconst n, 1)) (hv : Int32.ofInt n = v) (k : J X A nL Q B (pc + 1) lv (.int v :: st)) : J X A nL Q B pc lv (st) := fun H locs ls hB hS hl => lv_iconst C.1.1 C.1.2.1 hd hv (k H locs ls hB hS hl)
theorem J_bipush (C : jC X cc nL own fr lo) {n : Int} {v : Int32} (hd : decode cc pc = .ok (.bipush n, 2)) (hv : (Int8.ofInt n).toInt32 = v) (k : J X A nL Q B (pc + 2) lv (.int v :: st)) : J X A nL Q B pc lv (st) := fun H locs ls hB hS hl => lv_bipush C.1.1 C.1.2.1 hd hv (k H locs ls hB hS hl)
theorem J_sipush (C : jC X cc nL own fr lo) {n : Int} {v : Int32} (hd : decode cc pc = .ok (.sipush n, 3)) (hv : (Int16.ofInt n).toInt32 = v) (k : J X A nL Q B (pc + 3) lv (.int v :: st)) : J X A nL Q B pc lv (st) := fun H locs ls hB hS hl => lv_sipush C.1.1 C.1.2.1 hd hv (k H locs ls hB hS hl)
theorem J_lconst (C : jC X cc nL own fr lo) {n : Fin 2} {v : Int64} (hd : decode cc pc = .ok (.lconst n, 1)) (hv : Int64.ofNat (n : Nat) = v) (k : J X A nL Q B (pc + 1) lv (.long v :: st)) : J X A nL Q B pc lv (st) := fun H locs ls hB hS hl => lv_lconst C.1.1 C.1.2.1 hd hv (k H locs ls hB hS hl)
theorem J_iload_n (C : jC X cc nL own fr lo) (j : Nat) {k : Fin 4} {i : Nat} {x : Int32} (hd : decode cc pc = .ok (.iload_n k, 1)) (hi : (k : Nat) = i) (hx : lv[j]? = some (i, .int x)) (k : J X A nL Q B (pc + 1) lv (.int x :: st)) : J X A nL Q B pc lv (st) := fun H locs ls hB hS hl => lv_iload_n C.1.1 C.1.2.1 hd hi (lv_at hl j hx) (k H locs ls hB hS hl)
theorem J_iload (C : jC X cc nL own fr lo) (j : Nat) {i : Nat} {x : Int32} (hd : decode cc pc = .ok (.iload i, 2)) (hx : lv[j]? = some (i, .int x)) (k : J X A nL Q B (pc + 2) lv (.int x :: st)) : J X A nL Q B pc lv (st) := fun H locs ls hB hS hl => lv_iload C.1.1 C.1.2.1 hd (lv_at hl j hx) (k H locs ls hB hS hl)
theorem J_lload_n (C : jC X cc nL own fr lo) (j : Nat) {k : Fin 4} {i : Nat} {x : Int64} (hd : decode cc pc = .ok (.lload_n k, 1)) (hi : (k : Nat) = i) (hx : lv[j]? = some (i, .long x)) (k : J X A nL Q B (pc + 1) lv (.long x :: st)) : J X A nL Q B pc lv (st) := fun H locs ls hB hS hl => lv_lload_n C.1.1 C.1.2.1 hd hi (lv_at hl j hx) (k H locs ls hB hS hl)
theorem J_lload (C : jC X cc nL own fr lo) (j : Nat) {i : Nat} {x : Int64} (hd : decode cc pc = .ok (.lload i, 2)) (hx : lv[j]? = some (i, .long x)) (k : J X A nL Q B (pc + 2) lv (.long x :: st)) : J X A nL Q B pc lv (st) := fun H locs ls hB hS hl => lv_lload C.1.1 C.1.2.1 hd (lv_at hl j hx) (k H locs ls hB hS hl)
theorem J_aload_n (C : jC X cc nL own fr lo) (j : Nat) {k : Fin 4} {i : Nat} {x : Nat} (hd : decode cc pc = .ok (.aload_n k, 1)) (hi : (k : Nat) = i) (hx : lv[j]? = some (i, .ref x)) (k : J X A nL Q B (pc + 1) lv (.ref x :: st)) : J X A nL Q B pc lv (st) := fun H locs ls hB hS hl => lv_aload_n C.1.1 C.1.2.1 hd hi (lv_at hl j hx) (k H locs ls hB hS hl)
theorem J_aload (C : jC X cc nL own fr lo) (j : Nat) {i : Nat} {x : Nat} (hd : decode cc pc = .ok (.aload i, 2)) (hx : lv[j]? = some (i, .ref x)) (k : J X A nL Q B (pc + 2) lv (.ref x :: st)) : J X A nL Q B pc lv (st) := fun H locs ls hB hS hl => lv_aload C.1.1 C.1.2.1 hd (lv_at hl j hx) (k H locs ls hB hS hl)
theorem J_istore_n {lv' : List (Nat × Value)} (C : jC X cc nL own fr lo) {k : Fin 4} {i : Nat} {x : Int32} (hd : decode cc pc = .ok (.istore_n k, 1)) (hi : (k : Nat) = i) (hn : i < nL) (he : (i, Value.int x) :: lv.filter (fun q => !(q.1 == i) && !(q.1 + 1 == i && q.2.category == 2)) = lv') (k : J X A nL Q B (pc + 1) lv' st) : J X A nL Q B pc lv (.int x :: st) := fun H locs ls hB hS hl => lv_istore_n C.1.1 C.1.2.1 hd hi hl hn he (fun ls hl => k H locs ls hB hS hl)
theorem J_istore {lv' : List (Nat × Value)} (C : jC X cc nL own fr lo) {i : Nat} {x : Int32} (hd : decode cc pc = .ok (.istore i, 2)) (hn : i < nL) (he : (i, Value.int x) :: lv.filter (fun q => !(q.1 == i) && !(q.1 + 1 == i && q.2.category == 2)) = lv') (k : J X A nL Q B (pc + 2) lv' st) : J X A nL Q B pc lv (.int x :: st) := fun H locs ls hB hS hl => lv_istore C.1.1 C.1.2.1 hd hl hn he (fun ls hl => k H locs ls hB hS hl)
theorem J_astore_n {lv' : List (Nat × Value)} (C : jC X cc nL own fr lo) {k : Fin 4} {i : Nat} {x : Nat} (hd : decode cc pc = .ok (.astore_n k, 1)) (hi : (k : Nat) = i) (hn : i < nL) (he : (i, Value.ref x) :: lv.filter (fun q => !(q.1 == i) && !(q.1 + 1 == i && q.2.category == 2)) = lv') (k : J X A nL Q B (pc + 1) lv' st) : J X A nL Q B pc lv (.ref x :: st) := fun H locs ls hB hS hl => lv_astore_n C.1.1 C.1.2.1 hd hi hl hn he (fun ls hl => k H locs ls hB hS hl)
theorem J_astore {lv' : List (Nat × Value)} (C : jC X cc nL own fr lo) {i : Nat} {x : Nat} (hd : decode cc pc = .ok (.astore i, 2)) (hn : i < nL) (he : (i, Value.ref x) :: lv.filter (fun q => !(q.1 == i) && !(q.1 + 1 == i && q.2.category == 2)) = lv') (k : J X A nL Q B (pc + 2) lv' st) : J X A nL Q B pc lv (.ref x :: st) := fun H locs ls hB hS hl => lv_astore C.1.1 C.1.2.1 hd hl hn he (fun ls hl => k H locs ls hB hS hl)
theorem J_lstore_n {lv' : List (Nat × Value)} (C : jC X cc nL own fr lo) {k : Fin 4} {i : Nat} {x : Int64} (hd : decode cc pc = .ok (.lstore_n k, 1)) (hi : (k : Nat) = i) (hn : i + 1 < nL) (he : (i, Value.long x) :: lv.filter (fun q => !(q.1 == i) && (!(q.1 == i + 1) && !(q.1 + 1 == i && q.2.category == 2))) = lv') (k : J X A nL Q B (pc + 1) lv' st) : J X A nL Q B pc lv (.long x :: st) := fun H locs ls hB hS hl => lv_lstore_n C.1.1 C.1.2.1 hd hi hl hn he (fun ls hl => k H locs ls hB hS hl)
theorem J_lstore {lv' : List (Nat × Value)} (C : jC X cc nL own fr lo) {i : Nat} {x : Int64} (hd : decode cc pc = .ok (.lstore i, 2)) (hn : i + 1 < nL) (he : (i, Value.long x) :: lv.filter (fun q => !(q.1 == i) && (!(q.1 == i + 1) && !(q.1 + 1 == i && q.2.category == 2))) = lv') (k : J X A nL Q B (pc + 2) lv' st) : J X A nL Q B pc lv (.long x :: st) := fun H locs ls hB hS hl => lv_lstore C.1.1 C.1.2.1 hd hl hn he (fun ls hl => k H locs ls hB hS hl)
theorem J_iinc {lv' : List (Nat × Value)} (j : Nat) (C : jC X cc nL own fr lo) {i : Nat} {n : Int} {x v : Int32} (hd : decode cc pc = .ok (.iinc i n, 3)) (hx : lv[j]? = some (i, .int x)) (hv : x + Int32.ofInt n = v) (hn : i < nL) (he : (i, Value.int v) :: lv.filter (fun q => !(q.1 == i) && !(q.1 + 1 == i && q.2.category == 2)) = lv') (k : J X A nL Q B (pc + 3) lv' st) : J X A nL Q B pc lv st := fun H locs ls hB hS hl => lv_iinc C.1.1 C.1.2.1 hd hl hx hv hn he (fun ls hl => k H locs ls hB hS hl)
theorem J_iadd (C : jC X cc nL own fr lo) {x y : Int32} (hd : decode cc pc = .ok (.iadd, 1)) (k : J X A nL Q B (pc + 1) lv (.int (x + y) :: st)) : J X A nL Q B pc lv (.int y :: .int x :: st) := fun H locs ls hB hS hl => lv_iadd C.1.1 C.1.2.1 hd (k H locs ls hB hS hl)
theorem J_isub (C : jC X cc nL own fr lo) {x y : Int32} (hd : decode cc pc = .ok (.isub, 1)) (k : J X A nL Q B (pc + 1) lv (.int (x - y) :: st)) : J X A nL Q B pc lv (.int y :: .int x :: st) := fun H locs ls hB hS hl => lv_isub C.1.1 C.1.2.1 hd (k H locs ls hB hS hl)
theorem J_imul (C : jC X cc nL own fr lo) {x y : Int32} (hd : decode cc pc = .ok (.imul, 1)) (k : J X A nL Q B (pc + 1) lv (.int (x * y) :: st)) : J X A nL Q B pc lv (.int y :: .int x :: st) := fun H locs ls hB hS hl => lv_imul C.1.1 C.1.2.1 hd (k H locs ls hB hS hl)
theorem J_iand (C : jC X cc nL own fr lo) {x y : Int32} (hd : decode cc pc = .ok (.iand, 1)) (k : J X A nL Q B (pc + 1) lv (.int (x &&& y) :: st)) : J X A nL Q B pc lv (.int y :: .int x :: st) := fun H locs ls hB hS hl => lv_iand C.1.1 C.1.2.1 hd (k H locs ls hB hS hl)
theorem J_ior (C : jC X cc nL own fr lo) {x y : Int32} (hd : decode cc pc = .ok (.ior, 1)) (k : J X A nL Q B (pc + 1) lv (.int (x ||| y) :: st)) : J X A nL Q B pc lv (.int y :: .int x :: st) := fun H locs ls hB hS hl => lv_ior C.1.1 C.1.2.1 hd (k H locs ls hB hS hl)
theorem J_ixor (C : jC X cc nL own fr lo) {x y : Int32} (hd : decode cc pc = .ok (.ixor, 1)) (k : J X A nL Q B (pc + 1) lv (.int (x ^^^ y) :: st)) : J X A nL Q B pc lv (.int y :: .int x :: st) := fun H locs ls hB hS hl => lv_ixor C.1.1 C.1.2.1 hd (k H locs ls hB hS hl)
theorem J_ishl (C : jC X cc nL own fr lo) {x y : Int32} (hd : decode cc pc = .ok (.ishl, 1)) (k : J X A nL Q B (pc + 1) lv (.int (x <<< (y &&& 31)) :: st)) : J X A nL Q B pc lv (.int y :: .int x :: st) := fun H locs ls hB hS hl => lv_ishl C.1.1 C.1.2.1 hd (k H locs ls hB hS hl)
theorem J_ishr (C : jC X cc nL own fr lo) {x y : Int32} (hd : decode cc pc = .ok (.ishr, 1)) (k : J X A nL Q B (pc + 1) lv (.int (x >>> (y &&& 31)) :: st)) : J X A nL Q B pc lv (.int y :: .int x :: st) := fun H locs ls hB hS hl => lv_ishr C.1.1 C.1.2.1 hd (k H locs ls hB hS hl)
theorem J_idiv (C : jC X cc nL own fr lo) {x y : Int32} (hd : decode cc pc = .ok (.idiv, 1)) (hne : ¬ y = 0) (k : J X A nL Q B (pc + 1) lv (.int (x / y) :: st)) : J X A nL Q B pc lv (.int y :: .int x :: st) := fun H locs ls hB hS hl => lv_idiv C.1.1 C.1.2.1 hd hne (k H locs ls hB hS hl)
theorem J_irem (C : jC X cc nL own fr lo) {x y : Int32} (hd : decode cc pc = .ok (.irem, 1)) (hne : ¬ y = 0) (k : J X A nL Q B (pc + 1) lv (.int (x - x / y * y) :: st)) : J X A nL Q B pc lv (.int y :: .int x :: st) := fun H locs ls hB hS hl => lv_irem C.1.1 C.1.2.1 hd hne (k H locs ls hB hS hl)
theorem J_ldiv (C : jC X cc nL own fr lo) {x y : Int64} (hd : decode cc pc = .ok (.ldiv, 1)) (hne : ¬ y = 0) (k : J X A nL Q B (pc + 1) lv (.long (x / y) :: st)) : J X A nL Q B pc lv (.long y :: .long x :: st) := fun H locs ls hB hS hl => lv_ldiv C.1.1 C.1.2.1 hd hne (k H locs ls hB hS hl)
theorem J_lrem (C : jC X cc nL own fr lo) {x y : Int64} (hd : decode cc pc = .ok (.lrem, 1)) (hne : ¬ y = 0) (k : J X A nL Q B (pc + 1) lv (.long (x - x / y * y) :: st)) : J X A nL Q B pc lv (.long y :: .long x :: st) := fun H locs ls hB hS hl => lv_lrem C.1.1 C.1.2.1 hd hne (k H locs ls hB hS hl)
theorem J_ineg (C : jC X cc nL own fr lo) {x : Int32} (hd : decode cc pc = .ok (.ineg, 1)) (k : J X A nL Q B (pc + 1) lv (.int (-x) :: st)) : J X A nL Q B pc lv (.int x :: st) := fun H locs ls hB hS hl => lv_ineg C.1.1 C.1.2.1 hd (k H locs ls hB hS hl)
theorem J_ladd (C : jC X cc nL own fr lo) {x y : Int64} (hd : decode cc pc = .ok (.ladd, 1)) (k : J X A nL Q B (pc + 1) lv (.long (x + y) :: st)) : J X A nL Q B pc lv (.long y :: .long x :: st) := fun H locs ls hB hS hl => lv_ladd C.1.1 C.1.2.1 hd (k H locs ls hB hS hl)
theorem J_lsub (C : jC X cc nL own fr lo) {x y : Int64} (hd : decode cc pc = .ok (.lsub, 1)) (k : J X A nL Q B (pc + 1) lv (.long (x - y) :: st)) : J X A nL Q B pc lv (.long y :: .long x :: st) := fun H locs ls hB hS hl => lv_lsub C.1.1 C.1.2.1 hd (k H locs ls hB hS hl)
theorem J_lmul (C : jC X cc nL own fr lo) {x y : Int64} (hd : decode cc pc = .ok (.lmul, 1)) (k : J X A nL Q B (pc + 1) lv (.long (x * y) :: st)) : J X A nL Q B pc lv (.long y :: .long x :: st) := fun H locs ls hB hS hl => lv_lmul C.1.1 C.1.2.1 hd (k H locs ls hB hS hl)
theorem J_land (C : jC X cc nL own fr lo) {x y : Int64} (hd : decode cc pc = .ok (.land, 1)) (k : J X A nL Q B (pc + 1) lv (.long (x &&& y) :: st)) : J X A nL Q B pc lv (.long y :: .long x :: st) := fun H locs ls hB hS hl => lv_land C.1.1 C.1.2.1 hd (k H locs ls hB hS hl)
theorem J_lor (C : jC X cc nL own fr lo) {x y : Int64} (hd : decode cc pc = .ok (.lor, 1)) (k : J X A nL Q B (pc + 1) lv (.long (x ||| y) :: st)) : J X A nL Q B pc lv (.long y :: .long x :: st) := fun H locs ls hB hS hl => lv_lor C.1.1 C.1.2.1 hd (k H locs ls hB hS hl)
theorem J_lxor (C : jC X cc nL own fr lo) {x y : Int64} (hd : decode cc pc = .ok (.lxor, 1)) (k : J X A nL Q B (pc + 1) lv (.long (x ^^^ y) :: st)) : J X A nL Q B pc lv (.long y :: .long x :: st) := fun H locs ls hB hS hl => lv_lxor C.1.1 C.1.2.1 hd (k H locs ls hB hS hl)
theorem J_iushr (C : jC X cc nL own fr lo) {x y : Int32} (hd : decode cc pc = .ok (.iushr, 1)) (k : J X A nL Q B (pc + 1) lv (.int ((x.toUInt32 >>> (y.toUInt32 &&& Int32.toUInt32 31)).toInt32) :: st)) : J X A nL Q B pc lv (.int y :: .int x :: st) := fun H locs ls hB hS hl => lv_iushr C.1.1 C.1.2.1 hd rfl (k H locs ls hB hS hl)
theorem J_lushr (C : jC X cc nL own fr lo) {x : Int64} {y : Int32} (hd : decode cc pc = .ok (.lushr, 1)) (k : J X A nL Q B (pc + 1) lv (.long ((x.toUInt64 >>> (y.toInt64.toUInt64 &&& Int64.toUInt64 63)).toInt64) :: st)) : J X A nL Q B pc lv (.int y :: .long x :: st) := fun H locs ls hB hS hl => lv_lushr C.1.1 C.1.2.1 hd rfl (k H locs ls hB hS hl)
theorem J_lshl (C : jC X cc nL own fr lo) {x : Int64} {y : Int32} (hd : decode cc pc = .ok (.lshl, 1)) (k : J X A nL Q B (pc + 1) lv (.long (x <<< (y.toInt64 &&& 63)) :: st)) : J X A nL Q B pc lv (.int y :: .long x :: st) := fun H locs ls hB hS hl => lv_lshl C.1.1 C.1.2.1 hd rfl (k H locs ls hB hS hl)
theorem J_lshr (C : jC X cc nL own fr lo) {x : Int64} {y : Int32} (hd : decode cc pc = .ok (.lshr, 1)) (k : J X A nL Q B (pc + 1) lv (.long (x >>> (y.toInt64 &&& 63)) :: st)) : J X A nL Q B pc lv (.int y :: .long x :: st) := fun H locs ls hB hS hl => lv_lshr C.1.1 C.1.2.1 hd rfl (k H locs ls hB hS hl)
theorem J_i2l (C : jC X cc nL own fr lo) {x : Int32} (hd : decode cc pc = .ok (.i2l, 1)) (k : J X A nL Q B (pc + 1) lv (.long x.toInt64 :: st)) : J X A nL Q B pc lv (.int x :: st) := fun H locs ls hB hS hl => lv_i2l C.1.1 C.1.2.1 hd rfl (k H locs ls hB hS hl)
theorem J_l2i (C : jC X cc nL own fr lo) {x : Int64} (hd : decode cc pc = .ok (.l2i, 1)) (k : J X A nL Q B (pc + 1) lv (.int x.toInt32 :: st)) : J X A nL Q B pc lv (.long x :: st) := fun H locs ls hB hS hl => lv_l2i C.1.1 C.1.2.1 hd rfl (k H locs ls hB hS hl)
theorem J_i2b (C : jC X cc nL own fr lo) {x : Int32} (hd : decode cc pc = .ok (.i2b, 1)) (k : J X A nL Q B (pc + 1) lv (.int x.toInt8.toInt32 :: st)) : J X A nL Q B pc lv (.int x :: st) := fun H locs ls hB hS hl => lv_i2b C.1.1 C.1.2.1 hd rfl (k H locs ls hB hS hl)
theorem J_dup (C : jC X cc nL own fr lo) {va : Value} (hd : decode cc pc = .ok (.dup, 1)) (hva : va.category = 1) (k : J X A nL Q B (pc + 1) lv (va :: va :: st)) : J X A nL Q B pc lv (va :: st) := fun H locs ls hB hS hl => lv_dup C.1.1 C.1.2.1 hd hva (k H locs ls hB hS hl)
theorem J_pop (C : jC X cc nL own fr lo) {va : Value} (hd : decode cc pc = .ok (.pop, 1)) (hva : va.category = 1) (k : J X A nL Q B (pc + 1) lv (st)) : J X A nL Q B pc lv (va :: st) := fun H locs ls hB hS hl => lv_pop C.1.1 C.1.2.1 hd hva (k H locs ls hB hS hl)
theorem J_dup_x1 (C : jC X cc nL own fr lo) {va vb : Value} (hd : decode cc pc = .ok (.dup_x1, 1)) (hva : va.category = 1) (hvb : vb.category = 1) (k : J X A nL Q B (pc + 1) lv (va :: vb :: va :: st)) : J X A nL Q B pc lv (va :: vb :: st) := fun H locs ls hB hS hl => lv_dup_x1 C.1.1 C.1.2.1 hd hva hvb (k H locs ls hB hS hl)
theorem J_dup_x2 (C : jC X cc nL own fr lo) {va vb vd : Value} (hd : decode cc pc = .ok (.dup_x2, 1)) (hva : va.category = 1) (hvb : vb.category = 1) (hvd : vd.category = 1) (k : J X A nL Q B (pc + 1) lv (va :: vb :: vd :: va :: st)) : J X A nL Q B pc lv (va :: vb :: vd :: st) := fun H locs ls hB hS hl => lv_dup_x2 C.1.1 C.1.2.1 hd hva hvb hvd (k H locs ls hB hS hl)
theorem J_dup2_11 (C : jC X cc nL own fr lo) {va vb : Value} (hd : decode cc pc = .ok (.dup2, 1)) (hva : va.category = 1) (hvb : vb.category = 1) (k : J X A nL Q B (pc + 1) lv (va :: vb :: va :: vb :: st)) : J X A nL Q B pc lv (va :: vb :: st) := fun H locs ls hB hS hl => lv_dup2_11 C.1.1 C.1.2.1 hd hva hvb (k H locs ls hB hS hl)
theorem J_goto (C : jC X cc nL own fr lo) {off : Int} {tgt : Nat} (hd : decode cc pc = .ok (.goto off, 3)) (ht : (pc : Int) + off = (tgt : Int)) (k : J X A nL Q B (tgt) lv (st)) : J X A nL Q B pc lv (st) := fun H locs ls hB hS hl => lv_goto C.1.1 C.1.2.1 hd ht (k H locs ls hB hS hl)
theorem J_null (C : jC X cc nL own fr lo) (hd : decode cc pc = .ok (.aconst_null, 1)) (k : J X A nL Q B (pc + 1) lv (.null :: st)) : J X A nL Q B pc lv (st) := fun H locs ls hB hS hl => lv_null C.1.1 C.1.2.1 hd (k H locs ls hB hS hl)
theorem J_if_eq {tgt : Nat} (C : jC X cc nL own fr lo) {x : Int32} {off : Int} (hd : decode cc pc = .ok (.ifCond .eq off, 3)) (ht : (pc : Int) + off = (tgt : Int)) (kt : x = 0 → J X A nL Q B tgt lv st) (kf : ¬ x = 0 → J X A nL Q B (pc + 3) lv st) : J X A nL Q B pc lv (.int x :: st) := fun H locs ls hB hS hl => lv_if_eq C.1.1 C.1.2.1 hd ht (fun h => kt h H locs ls hB hS hl) (fun h => kf h H locs ls hB hS hl)
theorem J_if_ne {tgt : Nat} (C : jC X cc nL own fr lo) {x : Int32} {off : Int} (hd : decode cc pc = .ok (.ifCond .ne off, 3)) (ht : (pc : Int) + off = (tgt : Int)) (kt : ¬ x = 0 → J X A nL Q B tgt lv st) (kf : x = 0 → J X A nL Q B (pc + 3) lv st) : J X A nL Q B pc lv (.int x :: st) := fun H locs ls hB hS hl => lv_if_ne C.1.1 C.1.2.1 hd ht (fun h => kt h H locs ls hB hS hl) (fun h => kf h H locs ls hB hS hl)
theorem J_if_lt {tgt : Nat} (C : jC X cc nL own fr lo) {x : Int32} {off : Int} (hd : decode cc pc = .ok (.ifCond .lt off, 3)) (ht : (pc : Int) + off = (tgt : Int)) (kt : x < 0 → J X A nL Q B tgt lv st) (kf : ¬ x < 0 → J X A nL Q B (pc + 3) lv st) : J X A nL Q B pc lv (.int x :: st) := fun H locs ls hB hS hl => lv_if_lt C.1.1 C.1.2.1 hd ht (fun h => kt h H locs ls hB hS hl) (fun h => kf h H locs ls hB hS hl)
theorem J_if_ge {tgt : Nat} (C : jC X cc nL own fr lo) {x : Int32} {off : Int} (hd : decode cc pc = .ok (.ifCond .ge off, 3)) (ht : (pc : Int) + off = (tgt : Int)) (kt : 0 ≤ x → J X A nL Q B tgt lv st) (kf : ¬ 0 ≤ x → J X A nL Q B (pc + 3) lv st) : J X A nL Q B pc lv (.int x :: st) := fun H locs ls hB hS hl => lv_if_ge C.1.1 C.1.2.1 hd ht (fun h => kt h H locs ls hB hS hl) (fun h => kf h H locs ls hB hS hl)
theorem J_if_gt {tgt : Nat} (C : jC X cc nL own fr lo) {x : Int32} {off : Int} (hd : decode cc pc = .ok (.ifCond .gt off, 3)) (ht : (pc : Int) + off = (tgt : Int)) (kt : 0 < x → J X A nL Q B tgt lv st) (kf : ¬ 0 < x → J X A nL Q B (pc + 3) lv st) : J X A nL Q B pc lv (.int x :: st) := fun H locs ls hB hS hl => lv_if_gt C.1.1 C.1.2.1 hd ht (fun h => kt h H locs ls hB hS hl) (fun h => kf h H locs ls hB hS hl)
theorem J_if_le {tgt : Nat} (C : jC X cc nL own fr lo) {x : Int32} {off : Int} (hd : decode cc pc = .ok (.ifCond .le off, 3)) (ht : (pc : Int) + off = (tgt : Int)) (kt : x ≤ 0 → J X A nL Q B tgt lv st) (kf : ¬ x ≤ 0 → J X A nL Q B (pc + 3) lv st) : J X A nL Q B pc lv (.int x :: st) := fun H locs ls hB hS hl => lv_if_le C.1.1 C.1.2.1 hd ht (fun h => kt h H locs ls hB hS hl) (fun h => kf h H locs ls hB hS hl)
theorem J_icmp_eq {tgt : Nat} (C : jC X cc nL own fr lo) {x y : Int32} {off : Int} (hd : decode cc pc = .ok (.if_icmp .eq off, 3)) (ht : (pc : Int) + off = (tgt : Int)) (kt : x = y → J X A nL Q B tgt lv st) (kf : ¬ x = y → J X A nL Q B (pc + 3) lv st) : J X A nL Q B pc lv (.int y :: .int x :: st) := fun H locs ls hB hS hl => lv_icmp_eq C.1.1 C.1.2.1 hd ht (fun h => kt h H locs ls hB hS hl) (fun h => kf h H locs ls hB hS hl)
theorem J_icmp_ne {tgt : Nat} (C : jC X cc nL own fr lo) {x y : Int32} {off : Int} (hd : decode cc pc = .ok (.if_icmp .ne off, 3)) (ht : (pc : Int) + off = (tgt : Int)) (kt : ¬ x = y → J X A nL Q B tgt lv st) (kf : x = y → J X A nL Q B (pc + 3) lv st) : J X A nL Q B pc lv (.int y :: .int x :: st) := fun H locs ls hB hS hl => lv_icmp_ne C.1.1 C.1.2.1 hd ht (fun h => kt h H locs ls hB hS hl) (fun h => kf h H locs ls hB hS hl)
theorem J_icmp_lt {tgt : Nat} (C : jC X cc nL own fr lo) {x y : Int32} {off : Int} (hd : decode cc pc = .ok (.if_icmp .lt off, 3)) (ht : (pc : Int) + off = (tgt : Int)) (kt : x < y → J X A nL Q B tgt lv st) (kf : ¬ x < y → J X A nL Q B (pc + 3) lv st) : J X A nL Q B pc lv (.int y :: .int x :: st) := fun H locs ls hB hS hl => lv_icmp_lt C.1.1 C.1.2.1 hd ht (fun h => kt h H locs ls hB hS hl) (fun h => kf h H locs ls hB hS hl)
theorem J_icmp_ge {tgt : Nat} (C : jC X cc nL own fr lo) {x y : Int32} {off : Int} (hd : decode cc pc = .ok (.if_icmp .ge off, 3)) (ht : (pc : Int) + off = (tgt : Int)) (kt : y ≤ x → J X A nL Q B tgt lv st) (kf : ¬ y ≤ x → J X A nL Q B (pc + 3) lv st) : J X A nL Q B pc lv (.int y :: .int x :: st) := fun H locs ls hB hS hl => lv_icmp_ge C.1.1 C.1.2.1 hd ht (fun h => kt h H locs ls hB hS hl) (fun h => kf h H locs ls hB hS hl)
theorem J_icmp_gt {tgt : Nat} (C : jC X cc nL own fr lo) {x y : Int32} {off : Int} (hd : decode cc pc = .ok (.if_icmp .gt off, 3)) (ht : (pc : Int) + off = (tgt : Int)) (kt : y < x → J X A nL Q B tgt lv st) (kf : ¬ y < x → J X A nL Q B (pc + 3) lv st) : J X A nL Q B pc lv (.int y :: .int x :: st) := fun H locs ls hB hS hl => lv_icmp_gt C.1.1 C.1.2.1 hd ht (fun h => kt h H locs ls hB hS hl) (fun h => kf h H locs ls hB hS hl)
theorem J_icmp_le {tgt : Nat} (C : jC X cc nL own fr lo) {x y : Int32} {off : Int} (hd : decode cc pc = .ok (.if_icmp .le off, 3)) (ht : (pc : Int) + off = (tgt : Int)) (kt : x ≤ y → J X A nL Q B tgt lv st) (kf : ¬ x ≤ y → J X A nL Q B (pc + 3) lv st) : J X A nL Q B pc lv (.int y :: .int x :: st) := fun H locs ls hB hS hl => lv_icmp_le C.1.1 C.1.2.1 hd ht (fun h => kt h H locs ls hB hS hl) (fun h => kf h H locs ls hB hS hl)
theorem J_ifnonnull (C : jC X cc nL own fr lo) {x : Nat} {off : Int} {tgt : Nat} (hd : decode cc pc = .ok (.ifnonnull off, 3)) (ht : (pc : Int) + off = (tgt : Int)) (k : J X A nL Q B (tgt) lv (st)) : J X A nL Q B pc lv (.ref x :: st) := fun H locs ls hB hS hl => lv_ifnonnull C.1.1 C.1.2.1 hd ht (k H locs ls hB hS hl)
theorem J_ifnonnullN (C : jC X cc nL own fr lo) {off : Int} (hd : decode cc pc = .ok (.ifnonnull off, 3)) (k : J X A nL Q B (pc + 3) lv (st)) : J X A nL Q B pc lv (.null :: st) := fun H locs ls hB hS hl => lv_ifnonnullN C.1.1 C.1.2.1 hd (k H locs ls hB hS hl)
theorem J_ifnull (C : jC X cc nL own fr lo) {x : Nat} {off : Int} (hd : decode cc pc = .ok (.ifnull off, 3)) (k : J X A nL Q B (pc + 3) lv (st)) : J X A nL Q B pc lv (.ref x :: st) := fun H locs ls hB hS hl => lv_ifnull C.1.1 C.1.2.1 hd (k H locs ls hB hS hl)
theorem J_ifnullN (C : jC X cc nL own fr lo) {off : Int} {tgt : Nat} (hd : decode cc pc = .ok (.ifnull off, 3)) (ht : (pc : Int) + off = (tgt : Int)) (k : J X A nL Q B (tgt) lv (st)) : J X A nL Q B pc lv (.null :: st) := fun H locs ls hB hS hl => lv_ifnullN C.1.1 C.1.2.1 hd ht (k H locs ls hB hS hl)
theorem J_ldc (C : jC X cc nL own fr lo) {index : Nat} {v : Int32} (hw : Cond.constant own index v ∈ zT) (hd : decode cc pc = .ok (.ldc index, 2)) (k : J X A nL Q B (pc + 2) lv (.int v :: st)) : J X A nL Q B pc lv st := fun H locs ls hB hS hl => lv_ldc C.1.1 C.1.2.1 C.1.2.2.2.1 (C.1.2.2.2.2 _ hw) hd (k H locs ls hB hS hl)
theorem J_ldcw (C : jC X cc nL own fr lo) {index : Nat} {v : Int32} (hw : Cond.constant own index v ∈ zT) (hd : decode cc pc = .ok (.ldc_w index, 3)) (k : J X A nL Q B (pc + 3) lv (.int v :: st)) : J X A nL Q B pc lv st := fun H locs ls hB hS hl => lv_ldcw C.1.1 C.1.2.1 C.1.2.2.2.1 (C.1.2.2.2.2 _ hw) hd (k H locs ls hB hS hl)
theorem J_ldc2 (C : jC X cc nL own fr lo) {index : Nat} {v : Int64} (hw : Cond.constantLong own index v ∈ zT) (hd : decode cc pc = .ok (.ldc2_w index, 3)) (k : J X A nL Q B (pc + 3) lv (.long v :: st)) : J X A nL Q B pc lv st := fun H locs ls hB hS hl => lv_ldc2 C.1.1 C.1.2.1 C.1.2.2.2.1 (C.1.2.2.2.2 _ hw) hd (k H locs ls hB hS hl)
end JR
theorem J_tsw {X : zX} {A : Nat → Prop} {nL : Nat} {Q : State → Prop} {B : Heap → Prop} {pc : Nat} {lv : List (Nat × Value)} {st : List Value} {cc : ByteArray} {own : String} {fr lo : Nat} (C : jC X cc nL own fr lo) {dflt l h : Int} {offs : Array Int} {len : Nat} {x : Int32} (hd : decode cc pc = .ok (.tableswitch dflt l h offs, len)) (ks : List (Int32 × Nat)) (dt : Nat)
    (h1 : ks.all (fun p => decide (l ≤ p.1.toInt) && decide (p.1.toInt ≤ h) && decide (offs[(p.1.toInt - l).toNat]? = some ((p.2 : Int) - (pc : Int)))) = true) (h2 : (List.range (h + 1 - l).toNat).all (fun n => ks.any (fun p => decide (p.1.toInt = l + n))) = true) (h3 : (pc : Int) + dflt = (dt : Int))
    (kk : ∀ p ∈ ks, x = p.1 → J X A nL Q B p.2 lv st) (kd : (∀ p ∈ ks, ¬ x = p.1) → J X A nL Q B dt lv st) : J X A nL Q B pc lv (.int x :: st) := by
  have hk : ∀ p ∈ ks, l ≤ p.1.toInt ∧ p.1.toInt ≤ h ∧ offs[(p.1.toInt - l).toNat]? = some ((p.2 : Int) - (pc : Int)) := fun p hp => by
    have := List.all_eq_true.mp h1 p hp
    simp only [Bool.and_eq_true, decide_eq_true_eq] at this
    exact ⟨this.1.1, this.1.2, this.2⟩
  intro H locs ls hB hS hl
  by_cases a1 : x.toInt < l ∨ h < x.toInt
  · exact lv_tableOut C.1.1 C.1.2.1 hd a1 h3 (kd (fun p hp e => by have := hk p hp; rw [e] at a1; omega) H locs ls hB hS hl)
  · have b1 : ¬ x.toInt < l := fun q => a1 (Or.inl q)
    have b2 : ¬ h < x.toInt := fun q => a1 (Or.inr q)
    have h4 := List.all_eq_true.mp h2 (x.toInt - l).toNat (List.mem_range.mpr (by omega))
    obtain ⟨p, hp, he⟩ := List.any_eq_true.mp h4
    have he := of_decide_eq_true he
    have hx : x = p.1 := Int32.toInt_inj.mp (by rw [he]; omega)
    obtain ⟨-, -, q3⟩ := hk p hp
    exact lv_tableIn (tgt := p.2) C.1.1 C.1.2.1 hd b1 b2 (by rw [hx]; exact q3) (by omega) (kk p hp hx H locs ls hB hS hl)
theorem J_lcmp {X : zX} {A : Nat → Prop} {nL : Nat} {Q : State → Prop} {B : Heap → Prop} {pc : Nat} {lv : List (Nat × Value)} {st : List Value} {cc : ByteArray} {own : String} {fr lo : Nat} {x y : Int64} (C : jC X cc nL own fr lo) (hd : decode cc pc = .ok (.lcmp, 1)) (k : J X A nL Q B (pc + 1) lv (.int (lg_cmp x y) :: st)) : J X A nL Q B pc lv (.long y :: .long x :: st) := fun H locs ls hB hS hl => W.lcmp C.1.1 C.1.2.1 hd (k H locs ls hB hS hl)
end
section
/-! THROWN AND CAUGHT: a handler of the frame's own method, its catch types cold or warm; contracts of calls that throw -/
theorem hd_go {Q : Handler → Pre} {E : CtlPost} {e : Env} {d : Bool} {acts : List Action} {s : State} {f : JFrame} {a : Addr} {x : ExceptionTableEntry} {t : List ExceptionTableEntry} {c : ClassId} {cell : Cell} (hx : covers x f.pc = true) (h0 : x.catchType ≠ 0)
    (hl : s.vm.ClassLinks e.platform f.method.cls x.catchType c) (hcell : s.heap[a]? = some cell) (hobj : ∀ k, cell.vm ≠ .statics k) (hk : ∃ k, s.vm.classes[cell.cls]? = some k) (hc : ∃ k, s.vm.classes[c]? = some k) :
    wp (findHandler.go f a (x :: t)) Q E e d acts s ↔
      if s.vm.assignable cell.cls c = true then Q (.found x.handlerPc) d acts (s.setVm (s.vm.noted f.method.cls x.catchType (.cls c)))
      else wp (findHandler.go f a t) Q E e d acts (s.setVm (s.vm.noted f.method.cls x.catchType (.cls c))) := by
  simp only [covers] at hx
  obtain ⟨ha, ht⟩ := (resolveClass_links e.toSetting hl).op (op := VmOp.resolveClass f.method.cls x.catchType) rfl
  have hal : s.vm.Alike (s.vm.noted f.method.cls x.catchType (.cls c)) := (Vm.Alike.refl s.vm).noted _ _ _
  obtain ⟨k1, hk1⟩ := hk
  obtain ⟨k2, hk2⟩ := hc
  obtain ⟨k1', hk1', -⟩ := hal.2.2 _ _ hk1
  obtain ⟨k2', hk2', -⟩ := hal.2.2 _ _ hk2
  have hsame : (s.vm.noted f.method.cls x.catchType (.cls c)).assignable cell.cls c = s.vm.assignable cell.cls c := by rw [hal.assignable]
  cases hfit : s.vm.assignable cell.cls c <;> rw [hfit] at hsame <;>
    simp [findHandler.go, hx, h0, ha, ht, hcell, hobj, hk1', hk2', hsame, VmOp.dirties, VmOp.acts]
abbrev hEn : Type := ExceptionTableEntry × String
theorem hd_chain {e : Env} {s : State} {args : Array Value} {own : String} {mc : ClassId} (hown : s.vm.findClass own = some mc) (hpl : e.platform.magicAccessors = ({} : Platform).magicAccessors)
    {f : JFrame} (hf : f.method.cls = mc) {a : Addr} {cell : Cell} (hobj : cell.vm.isStatics = false) {x : ExceptionTableEntry} {name : String} {rest : List ExceptionTableEntry} {cT : ClassId}
    (hx : covers x f.pc = true) (h0 : x.catchType ≠ 0) (hl : (Cond.classLink own x.catchType name).before args s = true) (hcT : s.vm.findClass name = some cT) (hfit : s.vm.assignable cell.cls cT = true) :
    ∀ (pre : List hEn) (vm : Vm), s.WarmedH vm →
      (∀ y ∈ pre, covers y.1 f.pc = true ∧ y.1.catchType ≠ 0 ∧ (Cond.classLink own y.1.catchType y.2).before args s = true ∧ ∃ cY, s.vm.findClass y.2 = some cY ∧ s.vm.assignable cell.cls cY = false) →
      ∃ vm', s.WarmedH vm' ∧ ∀ (S : State), S.vm = vm → S.heap[a]? = some cell → ∀ (Q : Handler → Pre) (E : CtlPost) (d : Bool) (acts : List Action),
        (wp (findHandler.go f a (pre.map (·.1) ++ x :: rest)) Q E e d acts S ↔ Q (.found x.handlerPc) d acts (S.setVm vm')) := by
  obtain ⟨c', hc', hcl⟩ := Cond.classLink_spec hown hl e.platform hpl
  cases hcT.symm.trans hc'
  obtain ⟨dk, _, _, kt, hd, _, _, _, _, hkt, _, hopen⟩ := hcl.here
  obtain ⟨ks, hks⟩ := Vm.classAt_of_assignable hfit ⟨kt, hkt⟩
  intro pre
  induction pre with
  | nil =>
    intro vm hW _
    obtain ⟨kt', hkt', -⟩ := hW.alike.2.2 _ _ hkt
    obtain ⟨ks', hks', -⟩ := hW.alike.2.2 _ _ hks
    refine ⟨vm.noted mc x.catchType (.cls cT), hW.noted hd hopen (State.rightAt_cls hcl), fun S hS hc Q E d acts => ?_⟩
    subst hS
    subst hf
    have hfit' : S.vm.assignable cell.cls cT = true := by rw [hW.alike.assignable]; exact hfit
    rw [List.map_nil, List.nil_append, hd_go hx h0 (hW.classLinks hcl) hc (VmData.ne_statics_of hobj) ⟨ks', hks'⟩ ⟨kt', hkt'⟩, if_pos hfit']
  | cons y ys ih =>
    intro vm hW hy
    obtain ⟨y1, y2, y3, cY, y4, y5⟩ := hy y List.mem_cons_self
    obtain ⟨cy', hcy', hcly⟩ := Cond.classLink_spec hown y3 e.platform hpl
    cases y4.symm.trans hcy'
    obtain ⟨dky, _, _, kty, hdy, _, _, _, _, hkty, _, hopeny⟩ := hcly.here
    obtain ⟨kt', hkt', -⟩ := hW.alike.2.2 _ _ hkty
    obtain ⟨ks', hks', -⟩ := hW.alike.2.2 _ _ hks
    have hW' : s.WarmedH (vm.noted mc y.1.catchType (.cls cY)) := hW.noted hdy hopeny (State.rightAt_cls hcly)
    obtain ⟨vm', hW2, ih2⟩ := ih _ hW' (fun z hz => hy z (List.mem_cons_of_mem _ hz))
    refine ⟨vm', hW2, fun S hS hc Q E d acts => ?_⟩
    subst hS
    subst hf
    have hfit' : S.vm.assignable cell.cls cY = false := by rw [hW.alike.assignable]; exact y5
    rw [List.map_cons, List.cons_append, hd_go y1 y2 (hW.classLinks hcly) hc (VmData.ne_statics_of hobj) ⟨ks', hks'⟩ ⟨kt', hkt'⟩, if_neg (by rw [hfit']; decide)]
    exact ih2 (S.setVm _) rfl hc Q E d acts
section HD
variable {p : Program} {l : Launch} {e : Env} {R : Room} {s : State} {m : MethodId} {args : Array Value} {below : List Frame} {meth : Method} {c : Code} {T : State} {locs : List Loc} {cells slots : Nat}
theorem hd_setvm (u : State) (vm' : Vm) (F F' : List Frame) : ((u.setFrames F).setVm vm').setFrames F' = (u.setVm vm').setFrames F' := by
  show ((u.setVm vm').setFrames F).setFrames F' = _
  rw [State.setFrames_setFrames]
/-- thrown over the frame g, caught by g's own method -/
theorem hd_caught (X : Stand p l e R s m args below meth c T locs cells slots) {a : Addr} {g : JFrame} (hg : g.method = m) {own : String} (hown : s.vm.findClass own = some m.cls) {cell : Cell} (hcell : T.heap[a]? = some cell) (hobj : cell.vm.isStatics = false)
    (pre : List hEn) (x : ExceptionTableEntry) (name : String) (rest : List ExceptionTableEntry) {cT : ClassId} (hsplit : c.exceptionTable.toList = pre.map (·.1) ++ x :: rest)
    (hpre : ∀ y ∈ pre, covers y.1 g.pc = true ∧ y.1.catchType ≠ 0 ∧ (Cond.classLink own y.1.catchType y.2).before args s = true ∧ ∃ cY, s.vm.findClass y.2 = some cY ∧ s.vm.assignable cell.cls cY = false)
    (hx : covers x g.pc = true) (h0 : x.catchType ≠ 0) (hl : (Cond.classLink own x.catchType name).before args s = true) (hcT : s.vm.findClass name = some cT) (hfit : s.vm.assignable cell.cls cT = true) :
    ∃ vm', Stand p l e R s m args below meth c (T.setVm vm') locs cells slots ∧
      ∀ target, Steps p.tables e below ((T.setVm vm').setTop { g with pc := x.handlerPc, stack := [.ref a] }) target → Steps p.tables e below ((T.setTop g).pushFrame (.throwing a)) target := by
  subst hg
  have hpl : e.platform.magicAccessors = ({} : Platform).magicAccessors := by rw [X.admits.platform]
  obtain ⟨vm', hW', key⟩ := hd_chain (f := g) (a := a) (rest := rest) hown hpl rfl hobj hx h0 hl hcT hfit pre T.vm X.warmed hpre
  refine ⟨vm', X.noted hW', fun target hrest => ?_⟩
  have hm : T.vm.method? g.method = some meth := X.method'
  have hfind : ∀ (Q : Handler → Pre) (E : CtlPost) (d : Bool) (acts : List Action), wp (findHandler g a) Q E e d acts ((T.setTop g).pushFrame (.throwing a)) ↔ Q (.found x.handlerPc) d acts (((T.setTop g).pushFrame (.throwing a)).setVm vm') := by
    intro Q E d acts
    rw [W.findHandler_eq (meth := meth) (code := c) (by rw [Stand.throwing_vm]; exact hm) X.code, hsplit]
    exact key _ (Stand.throwing_vm T g a) (by rw [Stand.throwing_heap]; exact hcell) Q E d acts
  have hstep : (stepThrowing e ((T.setTop g).pushFrame (.throwing a)) a (.java g :: T.frames.tail)).Is ((((T.setTop g).pushFrame (.throwing a)).setVm vm').setFrames (.java { g with pc := x.handlerPc, stack := [.ref a] } :: T.frames.tail)) [] := by
    simp only [stepThrowing, searchFrame, vmDo]
    generalize hr : Sem.go _ e false [] ((T.setTop g).pushFrame (.throwing a)) = res
    obtain ⟨as, rfl, ha⟩ := Sem.eq_ok_of hr (a := Handler.found x.handlerPc) (s' := ((T.setTop g).pushFrame (.throwing a)).setVm vm') (acts' := []) (by simp [hfind _ _ _ _])
    exact ⟨rfl, ha⟩
  obtain ⟨hgo, hw⟩ := X.here.throwing a
  refine Steps.head hgo hw ?_
  obtain ⟨g₀, hg0⟩ := Option.isSome_iff_exists.mp X.here.top
  obtain ⟨r, hr⟩ := State.topJava?_eq_some.mp hg0
  have hr' : (T.setVm vm').frames = .java g₀ :: r := hr
  rw [State.setTop_of_frames _ hr'] at hrest
  rw [stepThread_throwing (frames_entered X.here.top _), hstep.1, hr, List.tail_cons, State.pushFrame, hd_setvm, State.setTop_of_frames _ hr, hd_setvm]
  exact hrest
/-- a contract of a call that THROWS -/
def MetT (l : Launch) (y : MethodName) (ws : List Cond) (rm : Room) (Pc : Array Value → State → Prop) (Qc : Array Value → State → Addr → State → Prop) (mc ms : Nat) (free : Addr → Prop) : Prop :=
  MetFree l y (headSpec ws rm) Pc (fun _ _ _ _ _ => True) (fun a st o t => ∃ x, o = .threw x ∧ Qc a st x t ∧ st.WarmedH t.vm ∧ ∃ L, st.sameButNew ({ t with vm := st.vm } : State) L mc ms ∧ ∀ q ∈ L, free q.base)
def MQT (below : List Frame) (Qc : Array Value → State → Addr → State → Prop) (a : Array Value) (s : State) (mc ms : Nat) (free : Addr → Prop) : State → Prop := fun t =>
  ∃ x, t.status = .running ∧ Ended t below (.threw x) ∧ Qc a s x t ∧ s.WarmedH t.vm ∧ ∃ L, s.sameButNew ({ t with vm := s.vm } : State) L mc ms ∧ ∀ q ∈ L, free q.base
theorem MetT.ofW {y : MethodName} {ws ws' : List Cond} {rm : Room} {Pc : Array Value → State → Prop} {Qc : Array Value → State → Addr → State → Prop} {mc ms : Nat} {free : Addr → Prop} {cc : ByteArray} {maxL : Nat} {ret : Option FieldType}
    (hy : plainName y.cls = true) (hw : ws = Cond.code y cc maxL ret :: ws')
    (body : ∀ p e s m args below meth c s₁, BodyLoose p l y (headSpec ws rm) cc maxL ret e s m args below meth c s₁ → c.maxLocals = maxL → Pc args s →
      W p l e (headSpec ws rm).room s m args below meth c s.heap [] 0 0 (MQT below Qc args s mc ms free) (entryFrame m args maxL)) : MetT l y ws rm Pc Qc mc ms free := by
  refine MetFree.of_bodyS (code := cc) (maxLocals := maxL) (ret := ret) hy ?_ ?_
  · intro args s m h hn
    obtain ⟨meth, c, h1, h2, h3, h4, h5, h6, -, -⟩ := Cond.code_spec hn (atoms_spec (ws := ws) h _ (by rw [hw]; exact List.mem_cons_self))
    exact ⟨meth, c, h1, h2, h3, h4, h5, h6⟩
  · intro p e s m args below meth c s₁ B hml hP _
    have hh0 : s₁.heap = s.heap := by rw [B.state]; rfl
    obtain ⟨t, a1, x, b1, b2, b3⟩ := body p e s m args below meth c s₁ B hml hP s₁ hh0 (Stand.of_body B)
    exact ⟨t, .threw x, a1, b1, b2, x, rfl, b3⟩
/-- the call of a method that throws: the note lies over the caller's frame -/
theorem callT {y : MethodName} {ws : List Cond} {rm : Room} {Pc : Array Value → State → Prop} {Qc : Array Value → State → Addr → State → Prop} {mc ms n index maxL : Nat} {free : Addr → Prop} {bytes : ByteArray} {ret : Option FieldType} {own : String}
    (cb : CallB R s args own index y bytes maxL ret ws rm mc ms n) (hM : MetT l y ws rm Pc Qc mc ms free) (hbl : FrameBlind Pc) (X : Stand p l e R s m args below meth c T locs cells slots)
    {g : JFrame} (hg : g.method = m) (hsize : g.locals.size = c.maxLocals) {ig : Instr} {len : Nat} (hdg : decode c.code g.pc = .ok (ig, len)) (hW : 2 * g.monitorRoom + (g.stack.map fun v => v.category).sum ≤ 8)
    {mk : MethodId} (hn : T.methodNamed? y = some mk) {a : Array Value} (hp : cells + mc ≤ R.cells ∧ slots + ms ≤ R.slots ∧ Pc a T) :
    ∃ (x : Addr) (st₀ t T' : State) (L : List Loc), st₀.heap = T.heap ∧ Stand p l e R s m args below meth c T' (locs ++ L) (cells + mc) (slots + ms) ∧ (∀ q ∈ L, free q.base) ∧ T'.heap = t.heap ∧ T'.vm = t.vm ∧ Qc a st₀ x t ∧
      Steps p.tables e below (doInvoke e (T.setTop g) [] mk a).1 ((T'.setTop g).pushFrame (.throwing x)) := by
  obtain ⟨hrc, hrs, hfr, hlo, hws, hcw, -, hini, -, -, -⟩ := cb
  have h1 : (headSpec ws rm).pre.before a T = true := atoms_intro fun w hw => hws w hw _ _ X.warmed
  have h2 : (Cond.code y bytes maxL ret).before a T = true := hws _ hcw _ _ X.warmed
  have h3 : (Cond.initialized y.cls).before a T = true := word_at X.warmed (Or.inl (by first | rfl | simp [Cond.onTables, Cond.keeps, Cond.steady])) hini
  obtain ⟨methY, cY, hmY, hcY, -, hlY, -, -, -, -⟩ := Cond.code_spec hn h2
  obtain ⟨kY, hkY, -⟩ := className_of_methodNamed hn
  have hinitY : kY.init = .initialized := Cond.initialized_spec (findClass_of_methodNamed hn) hkY h3
  have h : At T g.method c below := by rw [hg]; exact X.here
  have happ : (headSpec ws rm).appliesLoose y e.platform (T.calling g mk a) = true :=
    Spec.appliesLoose_calling (g := g) h hdg hn hkY hinitY
      (X.room_calling (g := g) (R' := rm) hsize hmY hcY hfr (by rw [hlY]; omega) (by rw [hrc]; exact hp.1) (by rw [hrs]; exact hp.2.1)) h1
  obtain ⟨mid, hmid⟩ := h.above
  have hfr2 : (T.setTop g).frames = (.java g :: mid) ++ below := by rw [State.frames_setTop' g h.top, hmid]; rfl
  obtain ⟨o, s₂, hsteps, -, hend, hq⟩ := Steps.callFree hM p X.admits X.cas X.clock (acts := []) hfr2 happ (hbl _ _ _ _ hp.2.2) trivial
  rw [State.frames_setTop' g h.top, X.tail] at hend
  obtain ⟨x, rfl, hq, hW2, L, hsame, hL⟩ := hq
  obtain ⟨T', X', hWT, hsameT, ht⟩ := X.outOfThrown hg hend hW2 hsame
  refine ⟨x, T.calling g mk a, s₂, T', L, rfl, X', hL, ?_, ?_, hq, ?_⟩
  · rw [ht, Stand.throwing_heap]
  · rw [ht, Stand.throwing_vm]
  · rw [← ht]; exact hsteps
end HD
end
section
/-! CONSTRUCTORS: a pool that grows: G.ext b n = the pool and the n cells from b on; kE L F: the cells of L hold F. All that a constructor makes stands in its pool, so each new cell's address is known: b + n -/
abbrev zG.ext (G : zG) (b n : Nat) : zG := (G.1, G.2.1, G.2.2.1, G.2.2.2 ++ List.range' b n)
theorem zG.ext0 (G : zG) (b : Nat) : G.ext b 0 = G := by
  show (G.1, G.2.1, G.2.2.1, G.2.2.2 ++ []) = G
  rw [List.append_nil]
theorem zG.ext_ext (G : zG) (b n k : Nat) : (G.ext b n).ext (b + n) k = G.ext b (n + k) := by
  show (G.1, G.2.1, G.2.2.1, (G.2.2.2 ++ List.range' b n) ++ List.range' (b + n) k) = _
  rw [List.append_assoc, List.range'_append_1]
def kE (L : List Nat) (F : Nat → va_E) : zK := fun f => ∀ a ∈ L, f a = F a
theorem kE_up {L : List Nat} {F : Nat → va_E} {a : Nat} {e : va_E} : ∀ f, kE L F f → kE L (va_up F a e) (va_up f a e) := by
  intro f hf x hx
  by_cases h : x = a
  · subst h; rw [va_up_self, va_up_self]
  · rw [va_up_ne _ _ h, va_up_ne _ _ h, hf x hx]
theorem kE_eq {L : List Nat} {F F' : Nat → va_E} (h : ∀ a ∈ L, F a = F' a) : ∀ f, kE L F f → kE L F' f := fun f hf x hx => by rw [hf x hx, h x hx]
abbrev iA (G : zG) (b : Nat) : Nat → Prop := fun q => q ∈ G.2.2.2 ∨ b ≤ q
/-- what a constructor's walk stands on: b the heap's size at its begin; n cells of k slots made so far; mc, ms in all -/
def iC (X : zX) (G : zG) (b n k : Nat) (cc : ByteArray) (nL : Nat) (own : String) (fr lo mc ms : Nat) : Prop :=
  CallFix X.1 X.m X.c cc nL X.s X.args zT own ∧ va_K G.1 G.2.1 G.2.2.1 X.s ∧ G.2.2.2.Nodup ∧ (∀ q ∈ G.2.2.2, q < b) ∧ X.meth.locks = false ∧ X.meth.name = "<init>" ∧ X.s.heap.size = b ∧ (X.cells = n ∧ X.slots = k) ∧ (n ≤ mc ∧ k ≤ ms) ∧ (mc ≤ X.R.cells ∧ ms ≤ X.R.slots) ∧ fr ≤ X.R.frames ∧ lo ≤ X.R.locals
theorem ext_nodup {L : List Nat} {b : Nat} (h : L.Nodup) (hb : ∀ q ∈ L, q < b) (n : Nat) : (L ++ List.range' b n).Nodup := by
  rw [List.nodup_append]
  refine ⟨h, List.nodup_range', ?_⟩
  intro x hx y hy e
  subst e
  have h1 := hb x hx
  have h2 := (List.mem_range'_1.mp hy).1
  omega
section YI
variable {X : zX} {G : zG} {b n k nL : Nat} {Q : State → Prop} {F F' : Nat → va_E} {pc : Nat} {lv : List (Nat × Value)} {st rest As : List Value} {cc bytes : ByteArray} {own : String} {fr lo mc ms fr' lo' mc' ms' : Nat} {y : MethodName} {maxL index : Nat}
theorem iC.z (C : iC X G b n k cc nL own fr lo mc ms) : zC X (G.ext b n) (iA G b) cc nL own fr lo := by
  obtain ⟨c1, c2, c3, c4, c5, c6, c7, c8, c9, c10, c11, c12⟩ := C
  refine ⟨c1, c2, ext_nodup c3 c4 n, fun q hq => ?_, c5, Nat.le_trans (Nat.le_of_eq c8.1) (Nat.le_trans c9.1 c10.1), Nat.le_trans (Nat.le_of_eq c8.2) (Nat.le_trans c9.2 c10.2), c11, c12⟩
  rcases List.mem_append.mp hq with h | h
  · exact Or.inl h
  · exact Or.inr (List.mem_range'_1.mp h).1
theorem iC.more (C : iC X G b n k cc nL own fr lo mc ms) {i j : Nat} (h : n + i ≤ mc ∧ k + j ≤ ms) : iC (X.more i j) G b (n + i) (k + j) cc nL own fr lo mc ms := by
  obtain ⟨c1, c2, c3, c4, c5, c6, c7, c8, c9, c10, c11, c12⟩ := C
  refine ⟨c1, c2, c3, c4, c5, c6, c7, ⟨?_, ?_⟩, h, c10, c11, c12⟩
  · show X.cells + i = n + i; rw [c8.1]
  · show X.slots + j = k + j; rw [c8.2]
/-- the heap's size, where the walk stands -/
theorem iC.size (C : iC X G b n k cc nL own fr lo mc ms) {f : Nat → va_E} {H : Heap} {locs : List Loc} {T : State} (hP : va_P (G.ext b n).1 (G.ext b n).2.1 (va_pl (G.ext b n).2.2.2 f) H) (hS : va_S (iA G b) X.s.heap H locs) (hT : T.heap = H)
    (XX : Stand X.1 X.2.1 X.2.2.1 X.2.2.2.1 X.2.2.2.2.1 X.2.2.2.2.2.1 X.2.2.2.2.2.2.1 X.2.2.2.2.2.2.2.1 X.2.2.2.2.2.2.2.2.1 X.2.2.2.2.2.2.2.2.2.1 T locs X.2.2.2.2.2.2.2.2.2.2.1 X.2.2.2.2.2.2.2.2.2.2.2) : H.size = b + n := by
  obtain ⟨c1, c2, c3, c4, c5, c6, c7, c8, -⟩ := C
  have h1 : T.heap.size ≤ X.s.heap.size + X.cells := XX.heapSize
  rw [hT, c7, c8.1] at h1
  have h2 := hS.1
  rw [c7] at h2
  cases n with
  | zero => omega
  | succ n =>
    have h3 : b + n < H.size := va_pl_lt (X := []) hP (List.mem_append_right _ (List.mem_range'_1.mpr ⟨by omega, by omega⟩))
    omega
theorem Z_objInit {G : zG} {A : Nat → Prop} {K : zK} {a : Nat} (C : zC X G A cc nL own fr lo) (hlk : Cond.methodLink own index Lib.objectInit ∈ zT) (h1 : Cond.instanceMethod Lib.objectInit ∈ zT) (h2 : Cond.code Lib.objectInit ⟨#[0xb1]⟩ 1 none ∈ zT) (hle : 1 ≤ fr ∧ (st.map fun v => v.category).sum + 12 ≤ lo) (hd : decode cc pc = .ok (.invokespecial index, 3))
    (kk : Z X G A nL Q K (pc + 3) lv st) : Z X G A nL Q K pc lv (.ref a :: st) := fun f H locs ls hf hP hS hl =>
  W.objInit C.1.1 C.1.2.1 C.1.2.2.2.1 (C.1.2.2.2.2 _ hlk) (C.1.2.2.2.2 _ h1) (C.1.2.2.2.2 _ h2) rfl (by rw [C.1.2.2.1]; exact hl.1) rfl hd (Nat.le_trans hle.1 C.2.2.2.2.2.2.2.1) (Nat.le_trans (show 2 * 0 + (st.map fun v => v.category).sum + 12 ≤ lo by have e := hle.2; omega) C.2.2.2.2.2.2.2.2) (kk f H locs ls hf hP hS hl)
theorem Z_putF {G : zG} {A : Nat → Prop} {K K' : zK} (C : zC X G A cc nL own fr lo) (hin2 : X.meth.name = "<init>") {ref CN : String} {T : u_T} {N ci index a : Nat} {fs : List Value} (k : Nat) {v : Value} {ty : FieldType} (ty0 : Nat → FieldType) (ha : a ∈ G.2.2.2) (hm : ∀ f, K f → f a = .inr (ci, fs)) (hc : G.2.1[ci]? = some (CN, T, N)) (hin : ∀ w ∈ u_ws CN T N, w ∈ zT) (hty : ∀ k, k < N → parseFieldDescriptor (T k).2.2.1 = some (ty0 k)) (hnm : ∀ a, a < N → ∀ b, b < N → a ≠ b → (T a).2.1 ≠ (T b).2.1) (hk : k < N) (hlink : Cond.fieldLink own index ref (T k).2.1 (T k).2.2.1 ∈ zT) (href : (T k).1 = ref) (hdecl : (T k).1 = own) (hfin : (T k).2.2.2 = true) (hd' : parseFieldDescriptor (T k).2.2.1 = some ty) (hn : narrow ty v = v) (hfit : fits ty v = true) (hl' : k < fs.length) (hK : ∀ f, K f → K' (va_up f a (.inr (ci, fs.set k v)))) (hd : decode cc pc = .ok (.putfield index, 3)) (kk : Z X G A nL Q K' (pc + 3) lv st) : Z X G A nL Q K pc lv (v :: .ref a :: st) := fun f H locs ls hf hP hS hl => by
  obtain ⟨q0, hq⟩ := va_pl_get (X := []) (f := f) ha
  have hD : va_D A (va_pl G.2.2.2 f) := zD C.2.2.1 C.2.2.2.1
  have hq0 := hq
  rw [hm f hf] at hq
  refine va_putF C.1.1 C.1.2.1 C.1.2.2.2.2 hin ty0 hty hnm C.1.2.2.2.1 C.2.1 hP hD hS q0 hq hc k hk (C.1.2.2.2.2 _ hlink) (fun x h => by rw [← href]; exact h) hfin hin2 hdecl hd' hn hfit hl' hd (fun H1 locs1 hP1 hD1 hS1 => ?_)
  have e := va_pl_set (X := []) (e := .inr (ci, fs.set k v)) hD ha hq0
  simp only [List.nil_append] at e
  rw [e] at hP1
  exact kk _ H1 locs1 ls (hK f hf) hP1 hS1 hl
theorem Z_aast {G : zG} {A : Nat → Prop} {K K' : zK} (C : zC X G A cc nL own fr lo) {a v t0 n ci : Nat} {cA : ClassId} {r : vw_C} {vs : List Value} {g : Nat → Option Nat} {i : Int32} (ha : a ∈ G.2.2.2) (hm : ∀ f, K f → f a = .inl (cA, n, .inr (.inr (.inr (.inr g))))) (hva : v ∈ G.2.2.2) (hmv : ∀ f, K f → f v = .inr (ci, vs)) (ht : G.2.2.1[t0]? = some (cA, .object r.1)) (hc : G.2.1[ci]? = some r) (hin : vp_in i n)
    (hK : ∀ f, K f → K' (va_up f a (.inl (cA, n, .inr (.inr (.inr (.inr (va_up g i.toNatClampNeg (some v))))))))) (hd : decode cc pc = .ok (.aastore, 1)) (kk : Z X G A nL Q K' (pc + 1) lv st) : Z X G A nL Q K pc lv (.ref v :: .int i :: .ref a :: st) := fun f H locs ls hf hP hS hl => by
  obtain ⟨q0, hq⟩ := va_pl_get (X := []) (f := f) ha
  obtain ⟨q1, hq1⟩ := va_pl_get (X := []) (f := f) hva
  have hD : va_D A (va_pl G.2.2.2 f) := zD C.2.2.1 C.2.2.2.1
  have hq0 := hq
  rw [hm f hf] at hq
  rw [hmv f hf] at hq1
  refine va_astq C.1.1 C.1.2.1 C.2.1 hP hD hS q0 t0 q1 ci hq ht hq1 hc hin hd (fun H1 locs1 hP1 hD1 hS1 => ?_)
  have e := va_pl_set (X := []) (e := .inl (cA, n, .inr (.inr (.inr (.inr (va_up g i.toNatClampNeg (some v))))))) hD ha hq0
  simp only [List.nil_append] at e
  rw [e] at hP1
  exact kk _ H1 locs1 ls (hK f hf) hP1 hS1 hl
/-- one more cell, at the heap's end -/
theorem ext_push {D : va_G} {cl : List vw_C} {L : List Nat} {f : Nat → va_E} {H H1 : Heap} {e : va_E} (hb : ∀ q ∈ L, q < b) (hsz : H.size = b + n) (hP : va_P D cl (va_pl (L ++ List.range' b n) f) H) (ho : ∀ q, q < H.size → H1[q]? = H[q]?) (he : va_at D cl (b + n, e) H1) : va_P D cl (va_pl (L ++ List.range' b (n + 1)) (va_up f (b + n) e)) H1 := by
  have hne : (b + n) ∉ (L ++ List.range' b n) := by
    intro h
    rcases List.mem_append.mp h with h | h
    · have := hb _ h; omega
    · have := (List.mem_range'_1.mp h).2; omega
  have hr : L ++ List.range' b (n + 1) = (L ++ List.range' b n) ++ [b + n] := by
    rw [List.append_assoc, List.range'_1_concat]
  rw [hr, ← va_pl_push hne]
  refine (hP.kept (fun k q hk => ho q.1 ((hP k q hk).lt))).app (fun k q hk => ?_)
  have hz : k < 1 := (List.getElem?_eq_some_iff.mp hk).1
  rw [show k = 0 by omega] at hk
  cases hk
  exact he
theorem kE_push {L : List Nat} {f : Nat → va_E} {e : va_E} (hf : kE (L ++ List.range' b n) F f) : kE (L ++ List.range' b (n + 1)) (va_up F (b + n) e) (va_up f (b + n) e) := by
  intro x hx
  by_cases h : x = b + n
  · subst h; rw [va_up_self, va_up_self]
  · rw [va_up_ne _ _ h, va_up_ne _ _ h]
    refine hf x ?_
    rcases List.mem_append.mp hx with q | q
    · exact List.mem_append_left _ q
    · have := List.mem_range'_1.mp q
      exact List.mem_append_right _ (List.mem_range'_1.mpr ⟨this.1, by omega⟩)
theorem S_push {A : Nat → Prop} {H0 H H1 : Heap} {locs : List Loc} {h : Nat} (hS : va_S A H0 H locs) (hsz : H.size = h) (hz : H1.size = h + 1) (ho : ∀ q, q < h → H1[q]? = H[q]?) : va_S A H0 H1 locs := by
  subst hsz
  exact ⟨Nat.le_trans hS.1 (by omega), fun x h1 h2 => (ho x (Nat.lt_of_lt_of_le h1 hS.1)).trans (hS.2.1 x h1 h2), hS.2.2⟩
theorem iC.room (C : iC X G b n k cc nL own fr lo mc ms) {i j : Nat} (h : n + i ≤ mc ∧ k + j ≤ ms) : X.cells + i ≤ X.R.cells ∧ X.slots + j ≤ X.R.slots := by
  obtain ⟨c1, c2, c3, c4, c5, c6, c7, c8, c9, c10, c11, c12⟩ := C
  rw [c8.1, c8.2]
  exact ⟨Nat.le_trans h.1 c10.1, Nat.le_trans h.2 c10.2⟩
theorem Y_new (C : iC X G b n k cc nL own fr lo mc ms) {CN : String} {T : u_T} {N ci : Nat} {fs : List Value} (ty : Nat → FieldType) (hty : ∀ k, k < N → parseFieldDescriptor (T k).2.2.1 = some (ty k)) (hin : ∀ w ∈ u_ws CN T N, w ∈ zT) (hcl : Cond.classLink own index CN ∈ zT) (hinst : Cond.instantiable CN N ∈ zT) (hini : Cond.initialized CN ∈ zT) (hc : G.2.1[ci]? = some (CN, T, N)) (hfs : ∀ j, j < N → defaultValue (ty j) = vp_V fs j) (hm : n + 1 ≤ mc ∧ k + N ≤ ms) (hd : decode cc pc = .ok (.new index, 3))
    (kk : iC (X.more 1 N) G b (n + 1) (k + N) cc nL own fr lo mc ms → Z (X.more 1 N) (G.ext b (n + 1)) (iA G b) nL Q (kE (G.ext b (n + 1)).2.2.2 (va_up F (b + n) (.inr (ci, fs)))) (pc + 3) lv (.ref (b + n) :: st)) : Z X (G.ext b n) (iA G b) nL Q (kE (G.ext b n).2.2.2 F) pc lv st := by
  intro f H locs ls hf hP hS hl
  suffices hgo : H.size = b + n → zW X H locs Q (F0 X.m pc ls st) from fun T0 hT XX => hgo (C.size hP hS hT XX) T0 hT XX
  intro hsz
  have C2 := C.more hm
  have hrm := C.room hm
  have k2 := kk C2
  obtain ⟨c1, c2, c3, c4, -⟩ := C
  have hKn := c2.1 ci _ hc
  have hts := c1.2.2.2.2
  refine W.newcK c1.1 c1.2.1 c1.2.2.2.1 (hts _ hcl) (hts _ hinst) (hts _ hini) rfl hd hrm.1 hrm.2 hKn.2.1 hsz (fun H1 kC hkC e1 z1 o1 => ?_)
  exact k2 _ H1 locs ls (kE_push hf) (ext_push c4 hsz hP (fun q hq => o1 q (by rw [← hsz]; exact hq)) ⟨_, hc, (u_born ty hts hin hKn hkC e1 hty).to hfs⟩) (S_push hS hsz z1 o1) hl
theorem Y_newa (C : iC X G b n k cc nL own fr lo mc ms) {atype : ArrayType} {ty : FieldType} (hty : newarray.typeOf atype = ty) (harr : Cond.arrayClass ty ∈ zT) {t0 N' : Nat} {cA : ClassId} (ht : G.2.2.1[t0]? = some (cA, ty)) (hob : ∀ C, ¬ ty = .object C) {i : Int32} {a0 : vp_A} (ha : vp_cell cA a0 = arrV cA N' (fun _ => defaultValue ty)) (hn : ¬ i < 0) (hN : i.toNatClampNeg = N') (hbytes : N' * componentBytes ty ≤ 536870912) (hm : n + 1 ≤ mc ∧ k + N' ≤ ms) (hd : decode cc pc = .ok (.newarray atype, 2))
    (kk : iC (X.more 1 N') G b (n + 1) (k + N') cc nL own fr lo mc ms → Z (X.more 1 N') (G.ext b (n + 1)) (iA G b) nL Q (kE (G.ext b (n + 1)).2.2.2 (va_up F (b + n) (.inl (cA, a0)))) (pc + 2) lv (.ref (b + n) :: st)) : Z X (G.ext b n) (iA G b) nL Q (kE (G.ext b n).2.2.2 F) pc lv (.int i :: st) := by
  intro f H locs ls hf hP hS hl
  suffices hgo : H.size = b + n → zW X H locs Q (F0 X.m pc ls (.int i :: st)) from fun T0 hT XX => hgo (C.size hP hS hT XX) T0 hT XX
  intro hsz
  have C2 := C.more hm
  have hrm := C.room hm
  have k2 := kk C2
  obtain ⟨c1, c2, c3, c4, -⟩ := C
  have hts := c1.2.2.2.2
  subst hty
  refine va_newaK c1.1 c1.2.1 (hts _ harr) rfl hd rfl hn hN hbytes hrm.1 hrm.2 hsz (fun H1 cA' e1 z1 o1 hAr hNm => ?_)
  have hcA : cA' = cA := by
    have h := (c2.2 t0 _ ht).2
    have h2 : X.s.vm.findClass ("[" ++ (newarray.typeOf atype).toString) = some cA := by
      revert h hob
      cases newarray.typeOf atype with
      | object C => intro hob; exact absurd rfl (hob C)
      | _ => intro _ h; exact h
    exact Option.some.inj (hNm.symm.trans h2)
  subst hcA
  exact k2 _ H1 locs ls (kE_push hf) (ext_push c4 hsz hP (fun q hq => o1 q (by rw [← hsz]; exact hq)) (by show H1[b + n]? = some (vp_cell _ _); rw [ha]; exact e1)) (S_push hS hsz z1 o1) hl
theorem Y_newq (C : iC X G b n k cc nL own fr lo mc ms) {CN : String} (hcl : Cond.classLink own index CN ∈ zT) (hov : Cond.arrayOver (.object CN) ∈ zT) {t0 N' : Nat} {cA : ClassId} (ht : G.2.2.1[t0]? = some (cA, .object CN)) {i : Int32} (hn : ¬ i < 0) (hN : i.toNatClampNeg = N') (hbytes : N' * 4 ≤ 536870912) (hm : n + 1 ≤ mc ∧ k + N' ≤ ms) (hd : decode cc pc = .ok (.anewarray index, 3))
    (kk : iC (X.more 1 N') G b (n + 1) (k + N') cc nL own fr lo mc ms → Z (X.more 1 N') (G.ext b (n + 1)) (iA G b) nL Q (kE (G.ext b (n + 1)).2.2.2 (va_up F (b + n) (.inl (cA, N', .inr (.inr (.inr (.inr (fun _ => none)))))))) (pc + 3) lv (.ref (b + n) :: st)) : Z X (G.ext b n) (iA G b) nL Q (kE (G.ext b n).2.2.2 F) pc lv (.int i :: st) := by
  intro f H locs ls hf hP hS hl
  suffices hgo : H.size = b + n → zW X H locs Q (F0 X.m pc ls (.int i :: st)) from fun T0 hT XX => hgo (C.size hP hS hT XX) T0 hT XX
  intro hsz
  have C2 := C.more hm
  have hrm := C.room hm
  have k2 := kk C2
  obtain ⟨c1, c2, c3, c4, -⟩ := C
  have hts := c1.2.2.2.2
  subst hN
  refine W.anew c1.1 c1.2.1 c1.2.2.2.1 (hts _ hcl) (hts _ hov) rfl hd rfl hn hbytes hrm.1 hrm.2 (fun cA' kA comp f1 f2 f3 f4 => ?_)
  have hcA : cA' = cA := by
    obtain ⟨kA2, comp2, -, -, -, h4⟩ := (c2.2 t0 _ ht).2
    exact Option.some.inj (f1.symm.trans h4)
  subst hcA
  rw [hsz]
  generalize hH1 : H.push ({ cls := cA', slots := Array.replicate i.toNatClampNeg .null, vm := .none } : Cell) = H1
  have z1 : H1.size = b + n + 1 := by rw [← hH1, Array.size_push, hsz]
  have e1 : H1[b + n]? = some (arrV cA' i.toNatClampNeg (fun _ => .null)) := by rw [← hH1, ← hsz, Array.getElem?_push_size, ← arrV_new]
  have o1 : ∀ q : Nat, q < H.size → H1[q]? = H[q]? := fun q hq => by rw [← hH1, Array.getElem?_push, if_neg (Nat.ne_of_lt hq)]
  exact k2 _ H1 locs ls (kE_push hf) (ext_push c4 hsz hP o1 (by show H1[b + n]? = some (vp_cell _ _); rw [e1, vp_cell_q]; rfl)) (S_push hS hsz z1 (fun q hq => o1 q (by rw [hsz]; exact hq))) hl
/-! contracts of constructors -/
def iPre (G : zG) (b : Nat) (F : Nat → va_E) (U : State) : Prop := U.heap.size = b ∧ zPre G (kE G.2.2.2 F) U
def iPost (G : zG) (b mc : Nat) (F : Nat → va_E) : Array Value → State → Outcome → State → Prop := fun _ s0 oc t => (oc = .returned none ∧ zPre (G.ext b mc) (kE (G.ext b mc).2.2.2 F) t) ∧ va_F (iA G b) s0 t
abbrev iRm (fr lo mc ms : Nat) : Room := { frames := fr, cells := mc, slots := ms, locals := lo }
def iF (l : Launch) (y : MethodName) (cc : ByteArray) (nL : Nat) (fr lo mc ms : Nat) (G : zG) (b : Nat) (As : List Value) (F F' : Nat → va_E) : Prop :=
  Met l y (zWs y cc nL none) (iRm fr lo mc ms) (va_Pc As (iPre G b F)) (iPost G b mc F') mc ms (iA G b)
abbrev iQ (X : zX) (G : zG) (b mc ms : Nat) (F : Nat → va_E) : State → Prop := MQ X.below (iPost G b mc F) X.args X.s mc ms (iA G b)
theorem iF.ofZ {l : Launch} (hy : plainName y.cls = true) (hy1 : y.name = "<init>") (hL : G.2.2.2.Nodup) (hE : (lg_sl As).length ≤ nL)
    (body : ∀ X : zX, X.l = l → X.meth.sig.returnType = none → iC X G b 0 0 cc nL y.cls fr lo mc ms → Z X (G.ext b 0) (iA G b) nL (iQ X G b mc ms F') (kE (G.ext b 0).2.2.2 F) 0 (lv_args 0 As) []) : iF l y cc nL fr lo mc ms G b As F F' := by
  refine Met.ofW (cc := cc) (maxL := nL) (ret := none) (ws' := zT) hy rfl ?_
  intro p e s m args below meth c s₁ B hml hv
  obtain ⟨rfl, hsz, ⟨f, hf, hP⟩, hK⟩ := hv
  have hts := atoms_spec (ws := zWs y cc nL none) B.pre
  have hown : s.vm.findClass y.cls = some m.cls := findClass_of_methodNamed B.named
  have hin : meth.name = "<init>" := (name_of_methodNamed B.named B.method).1.trans hy1
  have hl := lv_entry As (n := nL) hE
  rw [lg_entry_eq]
  have hlt : ∀ q ∈ G.2.2.2, q < b := fun q hq => by rw [← hsz]; exact va_pl_lt (X := []) hP hq
  have h0 := body (p, l, e, (headSpec (zWs y cc nL none) (iRm fr lo mc ms)).room, s, m, As.toArray, below, meth, c, 0, 0) rfl B.returns ⟨⟨B.exec, B.bytes, hml, hown, fun w h => hts w (List.mem_cons_of_mem _ h)⟩, hK, hL, hlt, B.notSynchronized, hin, hsz, ⟨rfl, rfl⟩, ⟨Nat.zero_le _, Nat.zero_le _⟩, ⟨Nat.le_refl _, Nat.le_refl _⟩, Nat.le_refl _, Nat.le_refl _⟩
  rw [zG.ext0] at h0
  exact h0 f s.heap [] _ hf hP va_S.rf hl
theorem Y_vret (C : iC X G b n k cc nL own fr lo mc ms) (hn : n = mc) (hk : k = ms) (hr : X.meth.sig.returnType = none) (hd : decode cc pc = .ok (.return_, 1)) (hF : ∀ a ∈ (G.ext b mc).2.2.2, F a = F' a) : Z X (G.ext b n) (iA G b) nL (iQ X G b mc ms F') (kE (G.ext b n).2.2.2 F) pc lv [] := by
  subst hn; subst hk
  intro f H locs ls hf hP hS hl
  have hlk : X.meth.locks = false := C.2.2.2.2.1
  obtain ⟨e1, e2⟩ := C.2.2.2.2.2.2.2.1
  have C0 := C.z
  obtain ⟨p, l, e, R, s, m, args, below, meth, c, n1, n2⟩ := X
  dsimp only [zX.cells, zX.slots] at e1 e2
  subst e1; subst e2
  exact W.vret C0.1.1 C0.1.2.1 hr (fun t ht hW => ⟨⟨rfl, ⟨f, kE_eq hF f hf, by rw [ht]; exact hP⟩, va_K.moved hW.alike C0.2.1⟩, hS.F ht⟩) hS.2.2 hd hlk
theorem iPre.blind : FrameBlind (va_Pc As (iPre G b F)) := fun a U g mk q => by
  obtain ⟨q0, q1, q2, qK⟩ := q
  exact ⟨q0, q1, q2, va_K.moved (u := U) (U := U.calling g mk a) (Vm.Alike.refl U.vm) qK⟩
def zMk (y : MethodName) (bytes : ByteArray) (maxL n : Nat) : Prop :=
  Cond.instanceMethod y ∈ zT ∧ Cond.initialized y.cls ∈ zT ∧ Cond.code y bytes maxL none ∈ zT ∧ (y.cls ≠ "java/lang/invoke/MethodHandle" ∧ y.cls ≠ "java/lang/invoke/VarHandle") ∧ (parseMethodDescriptor y.desc).map (fun d => d.parameters.length) = some n ∧ y.name = "<init>"
theorem iCB (c1 : CallFix X.1 X.m X.c cc nL X.s X.args zT own) (c11 : fr ≤ X.R.frames) (c12 : lo ≤ X.R.locals) {np : Nat} (mi : zMk y bytes maxL np) (hlk : Cond.methodLink own index y ∈ zT) (hle : fr' + 1 ≤ fr ∧ 19 + maxL + lo' ≤ lo) :
    CallB X.R X.s X.args own index y bytes maxL none (zWs y bytes maxL none) (iRm fr' lo' mc' ms') mc' ms' np := by
  obtain ⟨m1, m2, m3, m4, m5, m6⟩ := mi
  have hts := c1.2.2.2.2
  have good : ∀ w ∈ zWs y bytes maxL none, w ∈ zT ∧ ((w.onTables && w.keeps) = true ∨ ∃ ty, w = .arrayClass ty) := by
    intro w hw
    have h1 : w ∈ zT := by
      rcases List.mem_cons.mp hw with h | h
      · rw [h]; exact m3
      · exact h
    exact ⟨h1, good_of_word (List.mem_filter.mp h1).2⟩
  refine ⟨rfl, rfl, ?_, ?_, pay_in hts good, List.mem_cons_self, hts _ m3, hts _ m2, m4, fun sig h => ?_, hts _ hlk⟩
  · show fr' + 1 ≤ _; omega
  · show 8 + (maxL + 11) + lo' ≤ _; omega
  · rw [h] at m5
    exact (Option.some.inj m5).symm
theorem Y_callI (C : iC X G b n k cc nL own fr lo mc ms) {np a : Nat} (mi : zMk y bytes maxL np) (hlk : Cond.methodLink own index y ∈ zT) (hM : iF X.l y bytes maxL fr' lo' mc' ms' (G.ext b n) (b + n) (.ref a :: As) F F') (hle : fr' + 1 ≤ fr ∧ 19 + maxL + lo' ≤ lo) (hm : n + mc' ≤ mc ∧ k + ms' ≤ ms)
    (hn : As.length = np) (hst : st = As.reverse ++ .ref a :: rest) (hrm : (rest.map fun v => v.category).sum ≤ 8) (hd : decode cc pc = .ok (.invokespecial index, 3))
    (kk : iC (X.more mc' ms') G b (n + mc') (k + ms') cc nL own fr lo mc ms → Z (X.more mc' ms') (G.ext b (n + mc')) (iA G b) nL Q (kE (G.ext b (n + mc')).2.2.2 F') (pc + 3) lv rest) : Z X (G.ext b n) (iA G b) nL Q (kE (G.ext b n).2.2.2 F) pc lv st := by
  intro f H locs ls hf hP hS hl T0 hT XX
  have hsz := C.size hP hS hT XX
  have C2 := C.more hm
  obtain ⟨c1, c2, c3, c4, c5, c6, c7, c8, c9, c10, c11, c12⟩ := id C
  have hcw := iCB (mc' := mc') (ms' := ms') c1 c11 c12 mi hlk hle
  have hrun := va_runI (H := H) (locs := locs) (cells := X.cells) (slots := X.slots) (e := X.e) (below := X.below) (meth := X.meth) (g := F0 X.m pc ls st) (As := As) (rest := rest) (b := a) c1 hM ⟨hcw, mi.2.2.2.2.2, c1.2.2.2.2 _ mi.1⟩ ⟨iPre.blind, fun U hU hW => ⟨rfl, by rw [hU]; exact hsz, ⟨f, hf, by rw [hU]; exact hP⟩, va_K.moved hW.alike c2⟩⟩ rfl hn hl.1 hst (lv_room hrm) hd (C.room hm)
  obtain ⟨v, st₀, t, T', L, h0, X', hL, e1, e2, ⟨⟨hv, ⟨f', hf', hP'⟩, hK'⟩, hz, hk⟩, stp⟩ := hrun T0 hT XX
  cases hv
  rw [h0] at hz hk
  rw [zG.ext_ext] at hf' hP'
  have hAA : ∀ q, iA (G.ext b n) (b + n) q → iA G b q := fun q h => by
    rcases h with h | h
    · rcases List.mem_append.mp h with h | h
      · exact Or.inl h
      · exact Or.inr (List.mem_range'_1.mp h).1
    · exact Or.inr (by omega)
  have hS' : va_S (iA G b) X.s.heap T'.heap (locs ++ L) := ⟨Nat.le_trans hS.1 (by rw [e1]; exact hz), fun q h1 h2 => by
      rw [e1, hk q (Nat.lt_of_lt_of_le h1 hS.1) (fun z => h2 (hAA q z))]; exact hS.2.1 q h1 h2, fun q hq => by
      rcases List.mem_append.mp hq with h | h
      · exact hS.2.2 q h
      · exact hAA _ (hL q h)⟩
  obtain ⟨t2, a1, b1⟩ := kk C2 f' T'.heap (locs ++ L) ls hf' (by rw [e1]; exact hP') hS' hl T' rfl X'
  exact ⟨t2, stp t2 a1, b1⟩
end YI
end
section
/-! METHODS THAT THROW: nothing old is written; a fresh object of class E flies -/
abbrev nA : Nat → Prop := fun _ => False
/-- a static of references that nobody writes -/
def tSt (C n d : String) (U : State) (H : Heap) : Prop := ∃ (c : ClassId) (k : Class) (i : Nat) (f : Field) (a : Nat) (cell : Cell) (v : Value), U.vm.findClass C = some c ∧ U.fieldFound? C n d = some (c, k, i, f) ∧ f.isStatic = true ∧ k.statics = some a ∧ H[a]? = some cell ∧ cell.vm.isStatics = true ∧ cell.cls = c ∧ f.slot < cell.slots.size ∧ k.staticTypes[f.slot]? = some f.type ∧ cell.slots[f.slot]? = some v ∧ v.isRef = true
theorem tSt.of {args : Array Value} {s : State} {C n d : String} (hl : (Cond.laysStatic C n d).before args s = true) (hr : (Cond.isRef (.static C n d)).before args s = true) : tSt C n d s s.heap := by
  obtain ⟨c, k, i, f, a, cell, h1, h2, h3, h4, h5, h6, h7, h8, h9⟩ := Cond.laysStatic_spec hl
  cases hv : (Term.static C n d).eval args s none [] s with
  | none => simp [Cond.before, Cond.holds, Cond.value, hv] at hr
  | some v =>
    obtain ⟨-, a', cell', g1, g2, -, g3⟩ := Term.static_spec h2 hv
    cases h4.symm.trans g1
    cases h5.symm.trans g2
    refine ⟨c, k, i, f, a, cell, v, h1, h2, h3, h4, h5, h6, h7, h8, h9, g3, ?_⟩
    simp only [Cond.before, Cond.holds, Cond.value, hv] at hr
    cases v <;> first | rfl | simp at hr
theorem tSt.moved {C n d : String} {u U : State} {H : Heap} (hvm : u.vm.Alike U.vm) (h : tSt C n d u H) : tSt C n d U H := by
  obtain ⟨c, k, i, f, a, cell, v, h1, h2, h3, h4, h5, h6, h7, h8, h9, h10⟩ := h
  obtain ⟨k', hi', he⟩ := State.fieldFound?_setVm hvm h2
  exact ⟨c, k', i, f, a, cell, v, by rw [hvm.findClass]; exact h1, hi', h3, by rw [he]; exact h4, h5, h6, h7, h8, by rw [he]; exact h9, h10⟩
theorem tSt.kept {C n d : String} {U : State} {H H1 : Heap} (h : tSt C n d U H) (hq : ∀ (a : Nat) (cell : Cell), H[a]? = some cell → cell.vm.isStatics = true → H1[a]? = H[a]?) : tSt C n d U H1 := by
  obtain ⟨c, k, i, f, a, cell, v, h1, h2, h3, h4, h5, h6, h7⟩ := h
  exact ⟨c, k, i, f, a, cell, v, h1, h2, h3, h4, by rw [hq a cell h5 h6]; exact h5, h6, h7⟩
theorem tSt.lays {args : Array Value} {s : State} {C n d : String} (h : tSt C n d s s.heap) : (Cond.laysStatic C n d).before args s = true := by
  obtain ⟨c, k, i, f, a, cell, v, h1, h2, h3, h4, h5, h6, h7, h8, h9, h10⟩ := h
  exact Cond.laysStatic_of h1 h2 h3 h4 h5 h6 h7 h8 h9
theorem tSt.isRef {args : Array Value} {s : State} {C n d : String} (h : tSt C n d s s.heap) : (Cond.isRef (.static C n d)).before args s = true := by
  obtain ⟨c, k, i, f, a, cell, v, h1, h2, h3, h4, h5, h6, h7, h8, h9, h10, h11⟩ := h
  have hev : (Term.static C n d).eval args s none [] s = some v := by
    simp [Term.eval, State.fieldNamed?, h2, h3, h4, h5, h6, h10]
  simp only [Cond.before, Cond.holds, Cond.value, hev]
  cases v <;> first | rfl | simp [Value.isRef] at h11
def tIsS : Cond → Bool
  | .stringRef .. => true
  | _ => false
def tIsC : Cond → Bool
  | .castable .. => true
  | _ => false
def tSR : List Cond := lw_tbl.filter tIsS
def tCa : List Cond := lw_tbl.filter tIsC
theorem tSR_in {w : Cond} (i : Nat) (h : lw_tbl[i]? = some w) (g : tIsS w = true) : w ∈ tSR := List.mem_filter.mpr ⟨List.mem_of_getElem? h, g⟩
theorem tCa_in {w : Cond} (i : Nat) (h : lw_tbl[i]? = some w) (g : tIsC w = true) : w ∈ tCa := List.mem_filter.mpr ⟨List.mem_of_getElem? h, g⟩
abbrev sUN : String × String × String := (Bundle.tN, "UNASSIGNED_STACK", Bundle.steD)
abbrev sSU : String × String × String := (Bundle.tN, "SUPPRESSED_SENTINEL", Bundle.listD)
/-- what making an exception needs of the tables and the heap beside the good words -/
def tOk (U : State) (H : Heap) : Prop := (∀ w ∈ tSR, ∀ args, w.before args U = true) ∧ (∀ w ∈ tCa, ∀ args, w.before args U = true) ∧ tSt Bundle.tN "UNASSIGNED_STACK" Bundle.steD U H ∧ tSt Bundle.tN "SUPPRESSED_SENTINEL" Bundle.listD U H
theorem sr_warm {s U : State} (hW : s.WarmedH U.vm) {w : Cond} (hw : tIsS w = true) (h : ∀ args, w.before args s = true) : ∀ args, w.before args U = true := by
  intro args
  cases w with
  | stringRef a b c =>
    have h1 := Cond.stringRef_warmed hW (h args)
    first
      | exact va_tabs rfl (rfl : (s.setVm U.vm).vm = U.vm) h1
      | (simp only [Cond.before, Cond.holds, Cond.value, State.names, State.poolOf?, State.resolvedAt?, State.vm_setVm] at h1 ⊢; exact h1)
  | _ => simp [tIsS] at hw
theorem ca_warm {s U : State} (hvm : s.vm.Alike U.vm) {w : Cond} (hw : tIsC w = true) (h : ∀ args, w.before args s = true) : ∀ args, w.before args U = true := by
  intro args
  cases w with
  | castable a b =>
    have h1 := h args
    simp only [Cond.before, Cond.holds, Cond.value] at h1 ⊢
    rw [hvm.findClass, hvm.findClass]
    cases ha : s.vm.findClass a with
    | none => simp [ha] at h1
    | some x =>
      cases hb : s.vm.findClass b with
      | none => simp [ha, hb] at h1
      | some y =>
        simp only [ha, hb] at h1 ⊢
        rw [hvm.assignable]
        exact h1
  | _ => simp [tIsC] at hw
theorem tOk.warm {s U : State} {H : Heap} (hW : s.WarmedH U.vm) (h : tOk s H) : tOk U H :=
  ⟨fun w hw => sr_warm hW (List.mem_filter.mp hw).2 (h.1 w hw), fun w hw => ca_warm hW.alike (List.mem_filter.mp hw).2 (h.2.1 w hw), h.2.2.1.moved hW.alike, h.2.2.2.moved hW.alike⟩
theorem tOk.same {s U : State} {H : Heap} (hv : U.vm = s.vm) (h : tOk s H) : tOk U H := h.warm (by rw [hv]; exact State.WarmedH.refl s)
theorem tOk.kept {U : State} {H H1 : Heap} (h : tOk U H) (hq : ∀ (a : Nat) (cell : Cell), H[a]? = some cell → cell.vm.isStatics = true → H1[a]? = H[a]?) : tOk U H1 := ⟨h.1, h.2.1, h.2.2.1.kept hq, h.2.2.2.kept hq⟩
def tPost (E : String) : Array Value → State → Addr → State → Prop := fun _ s0 x t => (s0.heap.size ≤ x ∧ ∃ ce, t.heap[x]? = some ce ∧ ce.vm.isStatics = false ∧ t.vm.findClass E = some ce.cls) ∧ s0.heap.size ≤ t.heap.size ∧ ∀ q, q < s0.heap.size → t.heap[q]? = s0.heap[q]?
/-- method y, where B holds of the state: it throws an E -/
def zTh (l : Launch) (y : MethodName) (cc : ByteArray) (nL : Nat) (ret : Option FieldType) (fr lo : Nat) (As : List Value) (B : State → Prop) (E : String) : Prop :=
  MetT l y (zWs y cc nL ret) (iRm fr lo 1 6) (va_Pc As (fun U => B U ∧ tOk U U.heap)) (tPost E) 1 6 nA
abbrev tQ (X : zX) (E : String) : State → Prop := MQT X.below (tPost E) X.args X.s 1 6 nA
def tC (X : zX) : Prop := zN X ∧ X.e.platform.stackTraces = false ∧ X.c.exceptionTable.isEmpty = true ∧ tOk X.s X.s.heap ∧ (1 ≤ X.R.cells ∧ 6 ≤ X.R.slots)
theorem zTh.ofJ {l : Launch} {y : MethodName} {fr lo : Nat} {As : List Value} {B : State → Prop} {B' : Heap → Prop} {E : String} {cc : ByteArray} {nL : Nat} {ret : Option FieldType} (hl : ∀ e, l.admits e → e.platform.stackTraces = false)
    (hy : plainName y.cls = true) (hE : (lg_sl As).length ≤ nL) (hB : ∀ U, B U → B' U.heap)
    (body : ∀ X : zX, X.l = l → jC X cc nL y.cls fr lo → tC X → B X.s → J X nA nL (tQ X E) B' 0 (lv_args 0 As) []) : zTh l y cc nL ret fr lo As B E := by
  refine MetT.ofW (cc := cc) (maxL := nL) (ret := ret) (ws' := zT) hy rfl ?_
  intro p e s m args below meth c s₁ Bd hml hv
  obtain ⟨rfl, hb, hok⟩ := hv
  have hts := atoms_spec (ws := zWs y cc nL ret) Bd.pre
  have hown : s.vm.findClass y.cls = some m.cls := findClass_of_methodNamed Bd.named
  have hent := lv_entry As (n := nL) hE
  rw [lg_entry_eq]
  exact body (p, l, e, (headSpec (zWs y cc nL ret) (iRm fr lo 1 6)).room, s, m, As.toArray, below, meth, c, 0, 0) rfl ⟨⟨Bd.exec, Bd.bytes, hml, hown, fun w h => hts w (List.mem_cons_of_mem _ h)⟩, Bd.notSynchronized, Nat.zero_le _, Nat.zero_le _, Nat.le_refl _, Nat.le_refl _⟩ ⟨⟨rfl, rfl⟩, hl e Bd.admits, Bd.noHandlers (hts _ List.mem_cons_self), hok, Nat.le_refl _, Nat.le_refl _⟩ hb s.heap [] _ (hB s hb) va_S.rf hent
section ZT
variable {X : zX} {B : Heap → Prop} {nL : Nat} {pc : Nat} {lv : List (Nat × Value)} {cc : ByteArray} {own : String} {fr lo : Nat}
/-- the words of an exception class's making -/
def tAt (own : String) (i3 : Nat) (E : String) (names : List String) : Prop := ∀ w ∈ Bundle.ownAtoms own i3 E names, w ∈ zT ∨ w ∈ tCa ∨ w = .laysStatic Bundle.tN "UNASSIGNED_STACK" Bundle.steD ∨ w = .laysStatic Bundle.tN "SUPPRESSED_SENTINEL" Bundle.listD ∨ w = .isRef (.static Bundle.tN "UNASSIGNED_STACK" Bundle.steD) ∨ w = .isRef (.static Bundle.tN "SUPPRESSED_SENTINEL" Bundle.listD)
theorem J_throw {E : String} {names : List String} {i1 i2 i3 : Nat} {text : String} (C : jC X cc nL own fr lo) (t : tC X) (hE : Bundle.fit E = true) (hns : ∀ n ∈ names, Bundle.fit n = true) (hat : tAt own i3 E names) (hcl : Cond.classLink own i1 E ∈ zT) (hini : Cond.initialized E ∈ zT) (hinst : Cond.instantiable E 6 ∈ zT) (hsr : Cond.stringRef own i2 text ∈ tSR)
    (hR : names.length + 4 ≤ fr ∧ 13 * (names.length + 1) + 43 ≤ lo) (hd0 : decode cc pc = .ok (.new i1, 3)) (hd3 : decode cc (pc + 3) = .ok (.dup, 1)) (hd4 : decode cc (pc + 3 + 1) = .ok (.ldc i2, 2)) (hd6 : decode cc (pc + 3 + 1 + 2) = .ok (.invokespecial i3, 3)) (hd9 : decode cc (pc + 3 + 1 + 2 + 3) = .ok (.athrow, 1)) : J X nA nL (tQ X E) B pc lv [] := by
  intro H locs ls hB hS hl
  obtain ⟨hN, htr, hout, hok, hr1, hr2⟩ := t
  obtain ⟨p, l, e, R, s, m, args, below, meth, c, n1, n2⟩ := X
  obtain ⟨z1, z2⟩ := hN
  dsimp only at z1 z2
  subst z1; subst z2
  obtain ⟨⟨hx, hb, hml, hown, hts⟩, hlk, -, -, hfr, hlo⟩ := C
  dsimp only [zX.m, zX.c, zX.s, zX.args, zX.meth, zX.R, zX.e, zX.below, zX.cells, zX.slots] at *
  have hlocs0 : locs = [] := by
    cases locs with
    | nil => rfl
    | cons a r => exact (hS.2.2 a List.mem_cons_self).elim
  subst hlocs0
  suffices hgo : H.size = s.heap.size → W p l e R s m args below meth c H [] 0 0 (tQ (p, l, e, R, s, m, args, below, meth, c, 0, 0) E) (F0 m pc ls []) from fun T0 hT XX => hgo (by
    have h1 : T0.heap.size ≤ s.heap.size + 0 := XX.heapSize
    rw [hT] at h1
    have h2 := hS.1
    omega) T0 hT XX
  intro hsz
  have hall : ∀ a ∈ Bundle.ownAtoms own i3 E names, a.before args s = true := fun w hw => by
    rcases hat w hw with h | h | h | h | h | h
    · exact hts w h
    · exact hok.2.1 w h args
    · rw [h]; exact hok.2.2.1.lays
    · rw [h]; exact hok.2.2.2.lays
    · rw [h]; exact hok.2.2.1.isRef
    · rw [h]; exact hok.2.2.2.isRef
  refine W.newc hx hb hown (hts _ hcl) (hts _ hinst) (hts _ hini) rfl hd0 (by omega) (by omega) (fun cC kC h1 h2 h3 h4 => ?_)
  refine lv_dup hx hb hd3 rfl ?_
  intro T1 hT1 X1
  have hsr' := hok.1 _ hsr args
  obtain ⟨k, cf, i, sa, -, -, -, -, -, hev⟩ := Cond.stringRef_spec hown hsr'
  have stp := X1.ldcString hx hown hsr' hev (g := F0 m (pc + 3 + 1) ls [.ref H.size, .ref H.size]) rfl (by rw [hb]; exact hd4)
  obtain ⟨U, st, hrun, hend, hW, hsame, ce, hce, ho⟩ := X1.ctorThrowS hx htr (own := own) (cls := E) (names := names) (ic := i3) hown hE hns hall (fun x hx => by cases hx) (a := H.size) h1 h2 (by rw [hT1, Array.getElem?_push_size] <;> rfl) (by omega) (msg := .ref sa) rfl
    (g := F0 m (pc + 3 + 1 + 2) ls [.ref sa, .ref H.size, .ref H.size]) rfl (hl.1.trans hml.symm) rfl rfl (rest := []) rfl (by rw [hb]; exact hd6) (by rw [hb]; exact hd9) (covers_of_empty hout _) (by omega) (by show 2 * 0 + 1 + _ ≤ _; omega) hlk
  refine ⟨U, stp U st, H.size, hrun, hend, ⟨⟨Nat.le_of_eq hsz.symm, ce, hce, by rw [ho.vm]; rfl, by rw [hW.alike.findClass]; exact ho.cls⟩, hsame.2.1, fun q hq => ?_⟩, hW, [], hsame, fun q hq => by cases hq⟩
  obtain ⟨cq, hcq⟩ : ∃ cq, s.heap[q]? = some cq := ⟨_, Array.getElem?_eq_getElem hq⟩
  obtain ⟨c', g1, g2, g3, g4⟩ := hsame.2.2.2.2.2 q cq hcq
  have hse : c'.slots = cq.slots := Array.ext_getElem? (fun i => g4 i (by simp))
  have g1' : U.heap[q]? = some c' := g1
  rw [g1', hcq, g2, hse]
end ZT
end
section
/-! J: reads, calls over a pool, calls that throw and are caught, wrappers with handlers, constructors -/
theorem zP.kept {G : zG} {K : zK} {H H' : Heap} (h : zP G K H) (hq : ∀ q ∈ G.2.2.2, q < H.size → H'[q]? = H[q]?) : zP G K H' := by
  obtain ⟨f, hf, hP⟩ := h
  refine ⟨f, hf, hP.kept (fun k q hk => ?_)⟩
  have hm : q ∈ va_pl G.2.2.2 f := List.mem_of_getElem? hk
  obtain ⟨a, ha, rfl⟩ := List.mem_map.mp hm
  exact hq a ha (hP k _ hk).lt
theorem zP.lt {G : zG} {K : zK} {H : Heap} (h : zP G K H) : ∀ q ∈ G.2.2.2, q < H.size := by
  obtain ⟨f, hf, hP⟩ := h
  exact fun q hq => va_pl_lt (X := []) hP hq
section JM
variable {X : zX} {G : zG} {A : Nat → Prop} {nL : Nat} {Q : State → Prop} {B B' : Heap → Prop} {K K' : zK} {pc : Nat} {lv : List (Nat × Value)} {st rest As : List Value} {cc bytes : ByteArray} {own : String} {fr lo fr' lo' mc' ms' : Nat} {y : MethodName} {w : Option Value} {n b index maxL : Nat} {ret : Option FieldType}
theorem J_get (C : jC X cc nL own fr lo) (hK : va_K G.1 G.2.1 G.2.2.1 X.s) (hB : ∀ H, B H → zP G K H) {ref CN : String} {T : u_T} {N ci index a : Nat} {fs : List Value} (k : Nat) {v : Value} (ha : a ∈ G.2.2.2) (hm : ∀ f, K f → f a = .inr (ci, fs)) (hc : G.2.1[ci]? = some (CN, T, N)) (hin : ∀ w ∈ u_ws CN T N, w ∈ zT) (hk : k < N) (hlink : Cond.fieldLink own index ref (T k).2.1 (T k).2.2.1 ∈ zT) (href : (T k).1 = ref) (hv : fs[k]? = some v) (hd : decode cc pc = .ok (.getfield index, 3)) (kk : J X A nL Q B (pc + 3) lv (v :: st)) : J X A nL Q B pc lv (.ref a :: st) := fun H locs ls hb hS hl => by
  obtain ⟨f, hf, hP⟩ := hB H hb
  obtain ⟨q0, hq⟩ := va_pl_get (X := []) (f := f) ha
  rw [hm f hf] at hq
  exact va_get C.1.1 C.1.2.1 C.1.2.2.2.2 hin C.1.2.2.2.1 hK hP q0 hq hc k hk (C.1.2.2.2.2 _ hlink) (fun x h => by rw [← href]; exact h) hv hd (kk H locs ls hb hS hl)
theorem J_aald (C : jC X cc nL own fr lo) (hK : va_K G.1 G.2.1 G.2.2.1 X.s) (hB : ∀ H, B H → zP G K H) {a t0 n : Nat} {cA : ClassId} {CN : String} {g : Nat → Option Nat} {i : Int32} (ha : a ∈ G.2.2.2) (hm : ∀ f, K f → f a = .inl (cA, n, .inr (.inr (.inr (.inr g))))) (ht : G.2.2.1[t0]? = some (cA, .object CN)) (hin : vp_in i n) (hd : decode cc pc = .ok (.aaload, 1)) (kk : J X A nL Q B (pc + 1) lv (va_rf (g i.toNatClampNeg) :: st)) : J X A nL Q B pc lv (.int i :: .ref a :: st) := fun H locs ls hb hS hl => by
  obtain ⟨f, hf, hP⟩ := hB H hb
  obtain ⟨q0, hq⟩ := va_pl_get (X := []) (f := f) ha
  rw [hm f hf] at hq
  exact va_aldq C.1.1 C.1.2.1 hK hP q0 t0 hq ht hin hd (kk H locs ls hb hS hl)
theorem jBack {H : Heap} {locs : List Loc} {ls : Array Slot} {A1 : Nat → Prop} (hA : ∀ q, A1 q → A q) (hS : va_S A X.s.heap H locs) (hl : lv_has ls nL lv) {P : State → Prop}
    (hr : va_Run X.1 X.2.1 X.2.2.1 X.2.2.2.1 X.2.2.2.2.1 X.2.2.2.2.2.1 X.2.2.2.2.2.2.1 X.2.2.2.2.2.2.2.1 X.2.2.2.2.2.2.2.2.1 X.2.2.2.2.2.2.2.2.2.1 H locs X.2.2.2.2.2.2.2.2.2.2.1 X.2.2.2.2.2.2.2.2.2.2.2 mc' ms' (F0 X.m pc ls st) rest (fun s0 oc t => (oc = .returned w ∧ P t) ∧ va_F A1 s0 t) A1)
    (hP : ∀ t H', t.heap = H' → P t → H.size ≤ H'.size → H'.size ≤ X.s.heap.size + (X.cells + mc') → (∀ q, q < H.size → ¬ A1 q → H'[q]? = H[q]?) → B' H')
    (k : J (X.more mc' ms') A nL Q B' (pc + 3) lv (w.toList ++ rest)) : zW X H locs Q (F0 X.m pc ls st) := by
  intro T hT XX
  obtain ⟨v, st₀, t, T', L, h0, X', hL, e1, e2, ⟨⟨hv, hp⟩, hz, hk⟩, stp⟩ := hr T hT XX
  cases hv
  rw [h0] at hz hk
  have hS' : va_S A X.s.heap T'.heap (locs ++ L) := ⟨Nat.le_trans hS.1 (by rw [e1]; exact hz), fun q h1 h2 => by
      rw [e1, hk q (Nat.lt_of_lt_of_le h1 hS.1) (fun z => h2 (hA q z))]; exact hS.2.1 q h1 h2, fun q hq => by
      rcases List.mem_append.mp hq with h | h
      · exact hS.2.2 q h
      · exact hA _ (hL q h)⟩
  obtain ⟨t2, a1, b1⟩ := k T'.heap (locs ++ L) ls (hP t _ e1.symm hp (by rw [e1]; exact hz) X'.heapSize (fun q h1 h2 => by rw [e1]; exact hk q h1 h2)) hS' hl T' rfl X'
  exact ⟨t2, stp t2 a1, b1⟩
theorem J_callV (C : jC X cc nL own fr lo) (hK : va_K G.1 G.2.1 G.2.2.1 X.s) (hN : G.2.2.2.Nodup) (hA : ∀ q ∈ G.2.2.2, A q) (hB : ∀ H, B H → zP G K H) (hB' : ∀ H H', B H → H.size ≤ H'.size → (∀ q, q < H.size → q ∉ G.2.2.2 → H'[q]? = H[q]?) → zP G K' H' → B' H')
    (mi : zMi y bytes maxL ret n) (hlk : Cond.methodLink own index y ∈ zT) (hM : zF X.l y bytes maxL ret fr' lo' G (.ref b :: As) K w K') (hle : fr' + 1 ≤ fr ∧ 19 + maxL + lo' ≤ lo)
    {ci N : Nat} {T : u_T} {fs : List Value} (hb : b ∈ G.2.2.2) (hm : ∀ f, K f → f b = .inr (ci, fs)) (hcl : G.2.1[ci]? = some (y.cls, T, N)) (hn : As.length = n) (hst : st = As.reverse ++ .ref b :: rest) (hrm : (rest.map fun v => v.category).sum ≤ 8) (hd : decode cc pc = .ok (.invokevirtual index, 3))
    (k : J X A nL Q B' (pc + 3) lv (w.toList ++ rest)) : J X A nL Q B pc lv st := by
  intro H locs ls hbb hS hl
  obtain ⟨f, hf, hP⟩ := hB H hbb
  have Cz : zC X G A cc nL own fr lo := C.z hK hN hA
  obtain ⟨q0, hq⟩ := va_pl_get (X := []) (f := f) hb
  rw [hm f hf] at hq
  have hcw := zCB Cz mi.2.2.1 mi.2.2.2.1 mi.2.2.2.2.1 mi.2.2.2.2.2 hlk hle
  exact jBack (mc' := 0) (ms' := 0) (P := zPre G K') hA hS hl (va_runV (As := As) (rest := rest) Cz.1 hM ⟨hcw, Cz.1.2.2.2.2 _ mi.1, Cz.1.2.2.2.2 _ mi.2.1⟩ ⟨zPre.blind, va_recv hK hP hcl hq, zPre.at Cz hf hP⟩ rfl hn hl.1 hst (lv_room hrm) hd ⟨Cz.2.2.2.2.2.1, Cz.2.2.2.2.2.2.1⟩)
    (fun t H' ht hp h1 _ h2 => hB' H H' hbb h1 h2 (by obtain ⟨⟨f', q1, q2⟩, -⟩ := hp; exact ⟨f', q1, by rw [← ht]; exact q2⟩)) k
theorem J_callS (C : jC X cc nL own fr lo) (hK : va_K G.1 G.2.1 G.2.2.1 X.s) (hN : G.2.2.2.Nodup) (hA : ∀ q ∈ G.2.2.2, A q) (hB : ∀ H, B H → zP G K H) (hB' : ∀ H H', B H → H.size ≤ H'.size → (∀ q, q < H.size → q ∉ G.2.2.2 → H'[q]? = H[q]?) → zP G K' H' → B' H')
    (mi : zMs y bytes maxL ret n) (hlk : Cond.methodLink own index y ∈ zT) (hM : zF X.l y bytes maxL ret fr' lo' G As K w K') (hle : fr' + 1 ≤ fr ∧ 19 + maxL + lo' ≤ lo)
    (hn : As.length = n) (hst : st = As.reverse ++ rest) (hrm : (rest.map fun v => v.category).sum ≤ 8) (hd : decode cc pc = .ok (.invokestatic index, 3))
    (k : J X A nL Q B' (pc + 3) lv (w.toList ++ rest)) : J X A nL Q B pc lv st := by
  intro H locs ls hbb hS hl
  obtain ⟨f, hf, hP⟩ := hB H hbb
  have Cz : zC X G A cc nL own fr lo := C.z hK hN hA
  have hcw := zCB Cz mi.2.1 mi.2.2.1 mi.2.2.2.1 mi.2.2.2.2 hlk hle
  exact jBack (mc' := 0) (ms' := 0) (P := zPre G K') hA hS hl (va_runS (As := As) (rest := rest) Cz.1 hM ⟨hcw, Cz.1.2.2.2.2 _ mi.1⟩ ⟨zPre.blind, zPre.at Cz hf hP⟩ rfl hn hl.1 hst (lv_room hrm) hd ⟨Cz.2.2.2.2.2.1, Cz.2.2.2.2.2.2.1⟩)
    (fun t H' ht hp h1 _ h2 => hB' H H' hbb h1 h2 (by obtain ⟨⟨f', q1, q2⟩, -⟩ := hp; exact ⟨f', q1, by rw [← ht]; exact q2⟩)) k
/-- a static method that touches no cell -/
abbrev zG0 (G : zG) : zG := (G.1, [], [], [])
theorem zG0_K (G : zG) (s : State) : va_K (zG0 G).1 (zG0 G).2.1 (zG0 G).2.2.1 s := ⟨fun c q h => by simp at h, fun c q h => by simp at h⟩
theorem zG0_P (G : zG) (H : Heap) : zP (zG0 G) (fun _ => True) H := ⟨fun _ => .inr (0, []), trivial, fun k q h => by simp [va_pl] at h⟩
theorem J_callP (C : jC X cc nL own fr lo) (hB : ∀ H H', B H → H.size ≤ H'.size → (∀ q, q < H.size → H'[q]? = H[q]?) → B H') (mi : zMs y bytes maxL ret n) (hlk : Cond.methodLink own index y ∈ zT) (hM : zF X.l y bytes maxL ret fr' lo' (zG0 G) As (fun _ => True) w (fun _ => True)) (hle : fr' + 1 ≤ fr ∧ 19 + maxL + lo' ≤ lo)
    (hn : As.length = n) (hst : st = As.reverse ++ rest) (hrm : (rest.map fun v => v.category).sum ≤ 8) (hd : decode cc pc = .ok (.invokestatic index, 3))
    (k : J X A nL Q B (pc + 3) lv (w.toList ++ rest)) : J X A nL Q B pc lv st :=
  J_callS (G := zG0 G) C (zG0_K G _) List.nodup_nil (fun q h => by cases h) (fun H _ => zG0_P G H) (fun H H' h1 h2 h3 _ => hB H H' h1 h2 (fun q hq => h3 q hq (by simp))) mi hlk hM hle hn hst hrm hd k
/-! a call that throws, caught in the caller's own method -/
theorem J_callT {Bp : State → Prop} {E name : String} {cT : ClassId} (C : jC X cc nL own fr lo) (mi : zMi y bytes maxL ret n) (hlk : Cond.methodLink own index y ∈ zT) (hM : zTh X.l y bytes maxL ret fr' lo' (.ref b :: As) Bp E) (hle : fr' + 1 ≤ fr ∧ 19 + maxL + lo' ≤ lo) (hrc : X.cells + 1 ≤ X.R.cells ∧ X.slots + 6 ≤ X.R.slots)
    (hrecv : ∀ H, B H → ∃ cell : Cell, H[b]? = some cell ∧ cell.vm.isStatics = false ∧ X.s.vm.findClass y.cls = some cell.cls) (hbl : ∀ U g mk a, Bp U → Bp (U.calling g mk a)) (hp : ∀ U : State, B U.heap → X.s.WarmedH U.vm → Bp U)
    (hok : tOk X.s X.s.heap) (hst0 : ∀ (a : Nat) (cell : Cell), X.s.heap[a]? = some cell → cell.vm.isStatics = true → ¬ A a) (hB' : ∀ H H', B H → H.size ≤ H'.size → (∀ q, q < H.size → H'[q]? = H[q]?) → B' H')
    (pre : List hEn) (x : ExceptionTableEntry) (tail : List ExceptionTableEntry) (hsplit : X.c.exceptionTable.toList = pre.map (·.1) ++ x :: tail)
    (hpre : ∀ z ∈ pre, covers z.1 pc = true ∧ z.1.catchType ≠ 0 ∧ Cond.classLink own z.1.catchType z.2 ∈ zT ∧ ∃ cY, X.s.vm.findClass z.2 = some cY ∧ ∀ cE, X.s.vm.findClass E = some cE → X.s.vm.assignable cE cY = false)
    (hx : covers x pc = true) (h0 : x.catchType ≠ 0) (hxl : Cond.classLink own x.catchType name ∈ zT) (hcT : X.s.vm.findClass name = some cT) (hfit : ∀ cE, X.s.vm.findClass E = some cE → X.s.vm.assignable cE cT = true)
    (hn : As.length = n) (hst : st = As.reverse ++ .ref b :: rest) (hrm : (rest.map fun v => v.category).sum ≤ 8) (hd : decode cc pc = .ok (.invokevirtual index, 3))
    (k : ∀ q : Nat, J (X.more 1 6) A nL Q B' x.handlerPc lv [.ref q]) : J X A nL Q B pc lv st := by
  intro H locs ls hbb hS hl T hT XX
  obtain ⟨hxx, hb, hml, hown, hts⟩ := C.1
  have good : ∀ w ∈ zWs y bytes maxL ret, w ∈ zT ∧ ((w.onTables && w.keeps) = true ∨ ∃ ty, w = .arrayClass ty) := by
    intro w hw
    have h1 : w ∈ zT := by
      rcases List.mem_cons.mp hw with h | h
      · rw [h]; exact mi.2.2.2.1
      · exact h
    exact ⟨h1, good_of_word (List.mem_filter.mp h1).2⟩
  have hcb : CallB X.R X.s X.args own index y bytes maxL ret (zWs y bytes maxL ret) (iRm fr' lo' 1 6) 1 6 n := by
    have e1 := C.2.2.2.2.1
    have e2 := C.2.2.2.2.2
    refine ⟨rfl, rfl, ?_, ?_, pay_in hts good, List.mem_cons_self, hts _ mi.2.2.2.1, hts _ mi.2.2.1, mi.2.2.2.2.1, fun sig h => ?_, hts _ hlk⟩
    · show fr' + 1 ≤ _; omega
    · show 8 + (maxL + 11) + lo' ≤ _; omega
    · have h2 := mi.2.2.2.2.2
      rw [h] at h2
      exact (Option.some.inj h2).symm
  obtain ⟨mk, methM, hnamed, hmethM, hstM, habM⟩ := Cond.instanceMethod_spec (hts _ mi.1)
  obtain ⟨methM', cM, hmethM', -, -, -, -, -, -, hsigM⟩ := Cond.code_spec hnamed (hts _ mi.2.2.2.1)
  cases hmethM.symm.trans hmethM'
  obtain ⟨c2, r2, m2, q1, q2, q3, q4, kP, hkP, hkPi⟩ := Cond.selects_spec (hts _ mi.2.1)
  obtain ⟨cellB, hcB, hoB, hclB⟩ := hrecv H hbb
  cases hclB.symm.trans q1
  cases (State.methodFound?_of_named hnamed mi.2.2.2.2.1).symm.trans q2
  cases hnamed.symm.trans q3
  have hselP : selectMethod X.e.platform X.s.vm cellB.cls mk = .method mk := by rw [Launch.admits_selectMethod XX.admits]; exact q4
  obtain ⟨vm₁, X₁, hstep₁⟩ := XX.invokevirtual hxx hown (hts _ hlk) hnamed hmethM hstM hkP hkPi mi.2.2.2.2.1 (a := b) (cell := cellB) (by rw [hT]; exact hcB)
    (fun z h => by rw [h] at hoB; cases hoB) hselP hmethM habM hkP hkPi (g := F0 X.m pc ls st) rfl (argsL := As) (rest := rest) (hn.trans (hcb.2.2.2.2.2.2.2.2.2.1 _ hsigM)) hst (by rw [hb]; exact hd)
  have hkeep : ∀ (a : Nat) (cell : Cell), X.s.heap[a]? = some cell → cell.vm.isStatics = true → H[a]? = X.s.heap[a]? := fun a cell h1 h2 => hS.2.1 a (Array.getElem?_eq_some_iff.mp h1).1 (hst0 a cell h1 h2)
  have hTH : (T.setVm vm₁).heap = H := hT
  have hbl' : FrameBlind (va_Pc (.ref b :: As) (fun U => Bp U ∧ tOk U U.heap)) := fun a U g mk q => by
    obtain ⟨z0, z1, z2⟩ := q
    exact ⟨z0, hbl _ _ _ _ z1, tOk.same (s := U) (U := U.calling g mk a) (H := U.heap) rfl z2⟩
  obtain ⟨a, st₀, t, T', L, g0, X', hL, e1, e2, ⟨⟨r1, ce, r2, r3, r4⟩, r5, r6⟩, hsteps⟩ := callT hcb hM hbl' X₁ (g := { F0 X.m pc ls st with stack := rest }) rfl (hl.1.trans hml.symm) (by rw [hb]; exact hd) (lv_room hrm) (X₁.named hnamed) (a := (Value.ref b :: As).toArray)
    ⟨hrc.1, hrc.2, rfl, hp _ (by rw [hTH]; exact hbb) X₁.warmed, by rw [hTH]; exact (hok.warm X₁.warmed).kept hkeep⟩
  have hL0 : L = [] := by
    cases L with
    | nil => rfl
    | cons z zs => exact (hL z List.mem_cons_self).elim
  subst hL0
  rw [g0, hTH] at r1 r5 r6
  have hE : X.s.vm.findClass E = some ce.cls := by rw [← X'.warmed.alike.findClass, e2]; exact r4
  obtain ⟨vm', X2, hcaught⟩ := hd_caught X' (a := a) (g := { F0 X.m pc ls st with stack := rest }) rfl hown (by rw [e1]; exact r2) r3 pre x name tail (cT := cT) hsplit
    (fun z hz => by obtain ⟨z1, z2, z3, cY, z4, z5⟩ := hpre z hz; exact ⟨z1, z2, hts _ z3, cY, z4, z5 _ hE⟩) hx h0 (hts _ hxl) hcT (hfit _ hE)
  have hS' : va_S A X.s.heap T'.heap (locs ++ []) := by
    rw [List.append_nil]
    exact ⟨Nat.le_trans hS.1 (by rw [e1]; exact r5), fun q h1 h2 => by rw [e1, r6 q (Nat.lt_of_lt_of_le h1 hS.1)]; exact hS.2.1 q h1 h2, hS.2.2⟩
  obtain ⟨t2, a1, b1⟩ := k a T'.heap (locs ++ []) ls (hB' H T'.heap hbb (by rw [e1]; exact r5) (fun q hq => by rw [e1]; exact r6 q hq)) hS' hl (T'.setVm vm') rfl X2
  exact ⟨t2, hstep₁ _ (fun acts => by rw [doInvoke_state]; exact hsteps.trans (hcaught _ a1)), b1⟩
/-! methods with handlers of their own -/
abbrev wWs (y : MethodName) (cc : ByteArray) (nL : Nat) (ret : Option FieldType) (hs : List (Nat × Nat × Nat × Nat)) : List Cond := Cond.codeWith y cc nL ret hs :: zT
def mkEn (t : Nat × Nat × Nat × Nat) : ExceptionTableEntry := { startPc := t.1, endPc := t.2.1, handlerPc := t.2.2.1, catchType := t.2.2.2 }
theorem mkEn_list {es : List ExceptionTableEntry} {hs : List (Nat × Nat × Nat × Nat)} (h : es.map (fun h => (h.startPc, h.endPc, h.handlerPc, h.catchType)) = hs) : es = hs.map mkEn := by
  rw [← h, List.map_map]
  have : (mkEn ∘ fun h : ExceptionTableEntry => (h.startPc, h.endPc, h.handlerPc, h.catchType)) = id := by
    funext x
    cases x
    rfl
  rw [this, List.map_id]
/-- static method y with handlers: from B (and what exceptions need) it answers w, the heap has B', only cells of A1 and new ones changed -/
def wPost (w : Option Value) (A1 : Nat → Prop) (B : Heap → Prop) : Array Value → State → Outcome → State → Prop := fun _ s0 oc t => (oc = .returned w ∧ B t.heap) ∧ va_F A1 s0 t
def wF (l : Launch) (y : MethodName) (cc : ByteArray) (nL : Nat) (ret : Option FieldType) (hs : List (Nat × Nat × Nat × Nat)) (fr lo : Nat) (As : List Value) (Ks : State → Prop) (A1 : Nat → Prop) (B : Heap → Prop) (w : Option Value) (B' : Heap → Prop) : Prop :=
  Met l y (wWs y cc nL ret hs) (iRm fr lo 1 6) (va_Pc As (fun U => (Ks U ∧ B U.heap) ∧ tOk U U.heap)) (wPost w A1 B') 1 6 A1
abbrev wQ (X : zX) (w : Option Value) (A1 : Nat → Prop) (B : Heap → Prop) : State → Prop := MQ X.below (wPost w A1 B) X.args X.s 1 6 A1
def wC' (X : zX) (hs : List (Nat × Nat × Nat × Nat)) : Prop := zN X ∧ X.c.exceptionTable.toList = hs.map mkEn ∧ tOk X.s X.s.heap ∧ (X.R.cells = 1 ∧ X.R.slots = 6)
theorem wF.ofJ {l : Launch} {hs : List (Nat × Nat × Nat × Nat)} {Ks : State → Prop} {A1 : Nat → Prop} (hy : plainName y.cls = true) (hE : (lg_sl As).length ≤ nL)
    (body : ∀ X : zX, X.l = l → X.meth.sig.returnType = ret → jC X cc nL y.cls fr lo → wC' X hs → Ks X.s → B X.s.heap → J X A1 nL (wQ X w A1 B') B 0 (lv_args 0 As) []) : wF l y cc nL ret hs fr lo As Ks A1 B w B' := by
  unfold wF Met
  refine MetFree.of_bodyS (code := cc) (maxLocals := nL) (ret := ret) hy ?_ ?_
  · intro args s m h hn
    obtain ⟨m', meth, c, h0, h1, h2, h3, h4, -, h5, h6, -⟩ := Cond.codeWith_spec (atoms_spec (ws := wWs y cc nL ret hs) h _ List.mem_cons_self)
    cases hn.symm.trans h0
    exact ⟨meth, c, h1, h2, h3, h4, h5, h6⟩
  · intro p e s m args below meth c s₁ Bd hml hP _
    obtain ⟨rfl, ⟨hks, hb⟩, hok⟩ := hP
    have hh0 : s₁.heap = s.heap := by rw [Bd.state]; rfl
    have hts := atoms_spec (ws := wWs y cc nL ret hs) Bd.pre
    have hown : s.vm.findClass y.cls = some m.cls := findClass_of_methodNamed Bd.named
    have hent := lv_entry As (n := nL) hE
    obtain ⟨m', meth', c', h0, h1, h2, h3, h4, h7, h5, h6, -⟩ := Cond.codeWith_spec (hts _ List.mem_cons_self)
    cases Bd.named.symm.trans h0
    cases Bd.method.symm.trans h1
    cases (Stand.of_body Bd).code.symm.trans h2
    have K := body (p, l, e, (headSpec (wWs y cc nL ret hs) (iRm fr lo 1 6)).room, s, m, As.toArray, below, meth, c, 0, 0) rfl Bd.returns ⟨⟨Bd.exec, Bd.bytes, hml, hown, fun w h => hts w (List.mem_cons_of_mem _ h)⟩, Bd.notSynchronized, Nat.zero_le _, Nat.zero_le _, Nat.le_refl _, Nat.le_refl _⟩ ⟨⟨rfl, rfl⟩, mkEn_list h7, hok, rfl, rfl⟩ hks hb s.heap [] _ hb va_S.rf hent
    rw [lg_entry_eq]
    obtain ⟨t, a1, o, b1, b2, b3⟩ := K s₁ hh0 (Stand.of_body Bd)
    exact ⟨t, o, a1, b1, b2, ⟨b3.1, b3.2⟩⟩
/-- the answer of a method with handlers: nothing made, or one exception -/
theorem J_wret {A1 : Nat → Prop} {v : Int32} (C : jC X cc nL own fr lo) (hc : X.cells ≤ 1 ∧ X.slots ≤ 6) (hr : X.meth.sig.returnType = some .int) (hd : decode cc pc = .ok (.ireturn, 1)) (hw : w = some (.int v)) (hB : ∀ H, B H → B' H) : J X A1 nL (wQ X w A1 B') B pc lv [.int v] := by
  subst hw
  intro H locs ls hb hS hl
  obtain ⟨p, l, e, R, s, m, args, below, meth, c, n1, n2⟩ := X
  refine W.widen (k := 1) (n := 6) hc.1 hc.2 ?_
  exact W.iret C.1.1 C.1.2.1 hr (fun t ht hW => ⟨⟨rfl, by rw [ht]; exact hB H hb⟩, hS.F ht⟩) hS.2.2 hd C.2.1
end JM
end
section
/-! J: the law's own calls: a wrapper, a constructor; new; the script -/
section JL
variable {X : zX} {G : zG} {A : Nat → Prop} {nL : Nat} {Q : State → Prop} {B B' : Heap → Prop} {K K' : zK} {pc : Nat} {lv : List (Nat × Value)} {st rest As : List Value} {cc bytes : ByteArray} {own : String} {fr lo fr' lo' mc' ms' : Nat} {y : MethodName} {w : Option Value} {n b index maxL : Nat} {ret : Option FieldType}
theorem jC.more (C : jC X cc nL own fr lo) {i j : Nat} (h : X.cells + i ≤ X.R.cells ∧ X.slots + j ≤ X.R.slots) : jC (X.more i j) cc nL own fr lo := ⟨C.1, C.2.1, h.1, h.2, C.2.2.2.2.1, C.2.2.2.2.2⟩
/-- a call that returns, of a method whose code the words say in whatever way -/
theorem callR {p : Program} {l : Launch} {e : Env} {R : Room} {s : State} {m : MethodId} {args : Array Value} {below : List Frame} {meth : Method} {c : Code} {T : State} {locs : List Loc} {cells slots : Nat} {ws : List Cond} {rm : Room} {Pc : Array Value → State → Prop} {Qc : Array Value → State → Outcome → State → Prop} {free : Addr → Prop}
    (hM : Met l y ws rm Pc Qc rm.cells rm.slots free) (hbl : FrameBlind Pc) (X : Stand p l e R s m args below meth c T locs cells slots) (hfr : rm.frames + 1 ≤ R.frames) (hlo : 8 + (maxL + 11) + rm.locals ≤ R.locals) (hws : ∀ w ∈ ws, ∀ (a' : Array Value) (U : State), s.WarmedH U.vm → w.before a' U = true) (hini : (Cond.initialized y.cls).before args s = true)
    {g : JFrame} (hg : g.method = m) (hsize : g.locals.size = c.maxLocals) {ig : Instr} {len : Nat} (hdg : decode c.code g.pc = .ok (ig, len)) (hW : 2 * g.monitorRoom + (g.stack.map fun v => v.category).sum ≤ 8)
    {mk : MethodId} (hn : T.methodNamed? y = some mk) {methY : Method} {cY : Code} (hmY : T.vm.method? mk = some methY) (hcY : methY.code = some cY) (hlY : cY.maxLocals = maxL) {a : Array Value} (hp : cells + rm.cells ≤ R.cells ∧ slots + rm.slots ≤ R.slots ∧ Pc a T) :
    ∃ (v : Option Value) (st₀ t T' : State) (L : List Loc), st₀.heap = T.heap ∧ Stand p l e R s m args below meth c T' (locs ++ L) (cells + rm.cells) (slots + rm.slots) ∧ (∀ q ∈ L, free q.base) ∧ T'.heap = t.heap ∧ T'.vm = t.vm ∧ Qc a st₀ (.returned v) t ∧
      Steps p.tables e below (doInvoke e (T.setTop g) [] mk a).1 (T'.setTop { g with pc := g.pc + len, stack := v.toList ++ g.stack }) := by
  have h1 : (headSpec ws rm).pre.before a T = true := atoms_intro fun w hw => hws w hw _ _ X.warmed
  have h3 : (Cond.initialized y.cls).before a T = true := word_at X.warmed (Or.inl (by first | rfl | simp [Cond.onTables, Cond.keeps, Cond.steady])) hini
  obtain ⟨kY, hkY, -⟩ := className_of_methodNamed hn
  have hinitY : kY.init = .initialized := Cond.initialized_spec (findClass_of_methodNamed hn) hkY h3
  have h : At T g.method c below := by rw [hg]; exact X.here
  have happ : (headSpec ws rm).appliesLoose y e.platform (T.calling g mk a) = true :=
    Spec.appliesLoose_calling (g := g) h hdg hn hkY hinitY
      (X.room_calling (g := g) (R' := rm) hsize hmY hcY hfr (by rw [hlY]; omega) hp.1 hp.2.1) h1
  obtain ⟨mid, hmid⟩ := h.above
  have hfr2 : (T.setTop g).frames = (.java g :: mid) ++ below := by rw [State.frames_setTop' g h.top, hmid]; rfl
  obtain ⟨o, s₂, hsteps, -, hend, hq⟩ := Steps.callFree hM p X.admits X.cas X.clock (acts := []) hfr2 happ (hbl _ _ _ _ hp.2.2) trivial
  rw [State.frames_setTop' g h.top, X.tail] at hend
  obtain ⟨hq, L, ⟨⟨v, rfl⟩, hW2, hsame⟩, hL⟩ := hq
  obtain ⟨T', X', hWT, hsameT, ht⟩ := X.outOf hg hdg hend hW2 hsame
  refine ⟨v, T.calling g mk a, s₂, T', L, rfl, X', hL, ?_, ?_, hq, ?_⟩
  · rw [ht]; rfl
  · rw [ht]; rfl
  · rw [← ht]; exact hsteps
theorem J_callW {hs : List (Nat × Nat × Nat × Nat)} {Ks : State → Prop} {A1 : Nat → Prop} {Bw Bw' : Heap → Prop} (C : jC X cc nL own fr lo) (hlk : Cond.methodLink own index y ∈ zT) (h1 : Cond.static y ∈ zT) (h2 : Cond.initialized y.cls ∈ zT) (h3 : Cond.codeWith y bytes maxL ret hs ∈ zT) (hy : y.cls ≠ "java/lang/invoke/MethodHandle" ∧ y.cls ≠ "java/lang/invoke/VarHandle") (hnp : (parseMethodDescriptor y.desc).map (fun d => d.parameters.length) = some n)
    (hM : wF X.l y bytes maxL ret hs fr' lo' As Ks A1 Bw w Bw') (hle : fr' + 1 ≤ fr ∧ 19 + maxL + lo' ≤ lo) (hrc : X.cells + 1 ≤ X.R.cells ∧ X.slots + 6 ≤ X.R.slots) (hKs : ∀ U : State, X.s.vm.Alike U.vm → Ks U) (hok : tOk X.s X.s.heap) (hst0 : ∀ (a : Nat) (cell : Cell), X.s.heap[a]? = some cell → cell.vm.isStatics = true → ¬ A a)
    (hA : ∀ q, A1 q → A q) (hB : ∀ H, B H → Bw H) (hB' : ∀ H H', B H → H.size ≤ H'.size → (∀ q, q < H.size → ¬ A1 q → H'[q]? = H[q]?) → Bw' H' → B' H')
    (hn : As.length = n) (hst : st = As.reverse ++ rest) (hrm : (rest.map fun v => v.category).sum ≤ 8) (hd : decode cc pc = .ok (.invokestatic index, 3))
    (k : J (X.more 1 6) A nL Q B' (pc + 3) lv (w.toList ++ rest)) : J X A nL Q B pc lv st := by
  intro H locs ls hbb hS hl T hT XX
  obtain ⟨hxx, hb, hml, hown, hts⟩ := C.1
  obtain ⟨mk, methM, cM, hnamed, hmethM, hcM, -, hlM, -, -, -, hsigM⟩ := Cond.codeWith_spec (hts _ h3)
  have hstatic : methM.isStatic = true := Cond.static_spec hnamed hmethM (hts _ h1)
  obtain ⟨kP, hkP, -⟩ := className_of_methodNamed hnamed
  have hinitP : kP.init = .initialized := Cond.initialized_spec (findClass_of_methodNamed hnamed) hkP (hts _ h2)
  have hlen : As.length = methM.sig.parameters.length := by
    have h4 := hnp
    rw [hsigM] at h4
    rw [hn]
    exact (Option.some.inj h4).symm
  obtain ⟨vm₁, X₁, hstep₁⟩ := XX.invokestatic hxx hown (hts _ hlk) hnamed hmethM hstatic hkP hinitP hy (g := F0 X.m pc ls st) rfl (argsL := As) (rest := rest) hlen hst (by rw [hb]; exact hd)
  have hkeep : ∀ (a : Nat) (cell : Cell), X.s.heap[a]? = some cell → cell.vm.isStatics = true → H[a]? = X.s.heap[a]? := fun a cell g1 g2 => hS.2.1 a (Array.getElem?_eq_some_iff.mp g1).1 (hst0 a cell g1 g2)
  have hTH : (T.setVm vm₁).heap = H := hT
  have good : ∀ w ∈ wWs y bytes maxL ret hs, w ∈ zT ∧ ((w.onTables && w.keeps) = true ∨ ∃ ty, w = .arrayClass ty) := by
    intro w hw
    have h1 : w ∈ zT := by
      rcases List.mem_cons.mp hw with h | h
      · rw [h]; exact h3
      · exact h
    exact ⟨h1, good_of_word (List.mem_filter.mp h1).2⟩
  have hKs2 : ∀ (U : State) (g : JFrame) (mk : MethodId) (a : Array Value), X.s.vm.Alike U.vm → Ks (U.calling g mk a) := fun U g mk a h => hKs _ h
  have hmT : (T.setVm vm₁).vm.method? mk = some methM := by
    rw [X₁.warmed.alike.method?]; exact hmethM
  have hM' : Met X.l y (wWs y bytes maxL ret hs) (iRm fr' lo' 1 6) (va_Pc As (fun U => (X.s.vm.Alike U.vm ∧ Bw U.heap) ∧ tOk U U.heap)) (wPost w A1 Bw') 1 6 A1 := by
    unfold Met
    unfold wF Met at hM
    exact MetFree.mono (P' := va_Pc As (fun U => (X.s.vm.Alike U.vm ∧ Bw U.heap) ∧ tOk U U.heap)) hM (fun a U q => by obtain ⟨z0, ⟨z1, z2⟩, z3⟩ := q; exact ⟨z0, ⟨hKs _ z1, z2⟩, z3⟩) (fun _ _ _ _ _ q => q) (fun _ _ _ _ _ q => q)
  obtain ⟨v, st₀, t, T', L, g0, X', hL, e1, e2, ⟨⟨r0, r1⟩, r5, r6⟩, hsteps⟩ := callR (rm := iRm fr' lo' 1 6) (maxL := maxL) (Pc := va_Pc As (fun U => (X.s.vm.Alike U.vm ∧ Bw U.heap) ∧ tOk U U.heap)) (Qc := wPost w A1 Bw') (free := A1) hM'
    (fun a U g mk q => by obtain ⟨z0, ⟨z1, z2⟩, z3⟩ := q; exact ⟨z0, ⟨z1, z2⟩, tOk.same (s := U) (U := U.calling g mk a) (H := U.heap) rfl z3⟩) X₁ (Nat.le_trans hle.1 C.2.2.2.2.1) (Nat.le_trans (show 8 + (maxL + 11) + lo' ≤ lo by have := hle.2; omega) C.2.2.2.2.2) (pay_in hts good) (hts _ h2)
    (g := { F0 X.m pc ls st with stack := rest }) rfl (hl.1.trans hml.symm) (by rw [hb]; exact hd) (lv_room hrm) (X₁.named hnamed) hmT hcM hlM (a := As.toArray) ⟨hrc.1, hrc.2, rfl, ⟨X₁.warmed.alike, by rw [hTH]; exact hB H hbb⟩, by rw [hTH]; exact (hok.warm X₁.warmed).kept hkeep⟩
  cases r0
  rw [g0, hTH] at r5 r6
  have hS' : va_S A X.s.heap T'.heap (locs ++ L) := ⟨Nat.le_trans hS.1 (by rw [e1]; exact r5), fun q h1 h2 => by
      rw [e1, r6 q (Nat.lt_of_lt_of_le h1 hS.1) (fun z => h2 (hA q z))]; exact hS.2.1 q h1 h2, fun q hq => by
      rcases List.mem_append.mp hq with h | h
      · exact hS.2.2 q h
      · exact hA _ (hL q h)⟩
  obtain ⟨t2, a1, b1⟩ := k T'.heap (locs ++ L) ls (hB' H T'.heap hbb (by rw [e1]; exact r5) (fun q g1 g2 => by rw [e1]; exact r6 q g1 g2) (by rw [e1]; exact r1)) hS' hl T' rfl X'
  exact ⟨t2, hstep₁ _ (fun acts => by rw [doInvoke_state]; exact hsteps.trans a1), b1⟩
/-- a constructor's call: its pool grows -/
theorem J_callI {F F' : Nat → va_E} {a : Nat} (C : jC X cc nL own fr lo) (hK : va_K G.1 G.2.1 G.2.2.1 X.s) (hsz : ∀ H, B H → H.size = b) (hXb : X.s.heap.size + X.cells = b) (hA : ∀ q, iA G b q → A q) (hB : ∀ H, B H → zP G (kE G.2.2.2 F) H) (hB' : ∀ H H', B H → H'.size = b + mc' → (∀ q, q < b → q ∉ G.2.2.2 → H'[q]? = H[q]?) → zP (G.ext b mc') (kE (G.ext b mc').2.2.2 F') H' → B' H') (hmc : 0 < mc')
    (mi : zMk y bytes maxL n) (hlk : Cond.methodLink own index y ∈ zT) (hM : iF X.l y bytes maxL fr' lo' mc' ms' G b (.ref a :: As) F F') (hle : fr' + 1 ≤ fr ∧ 19 + maxL + lo' ≤ lo) (hrc : X.cells + mc' ≤ X.R.cells ∧ X.slots + ms' ≤ X.R.slots)
    (hn : As.length = n) (hst : st = As.reverse ++ .ref a :: rest) (hrm : (rest.map fun v => v.category).sum ≤ 8) (hd : decode cc pc = .ok (.invokespecial index, 3))
    (k : J (X.more mc' ms') A nL Q B' (pc + 3) lv rest) : J X A nL Q B pc lv st := by
  intro H locs ls hbb hS hl
  obtain ⟨f, hf, hP⟩ := hB H hbb
  have hsH := hsz H hbb
  have hcw := iCB (mc' := mc') (ms' := ms') C.1 C.2.2.2.2.1 C.2.2.2.2.2 mi hlk hle
  exact jBack (w := none) (mc' := mc') (ms' := ms') (P := zPre (G.ext b mc') (kE (G.ext b mc').2.2.2 F')) hA hS hl (va_runI (As := As) (rest := rest) (b := a) C.1 hM ⟨hcw, mi.2.2.2.2.2, C.1.2.2.2.2 _ mi.1⟩ ⟨iPre.blind, fun U hU hW => ⟨rfl, by rw [hU]; exact hsH, ⟨f, hf, by rw [hU]; exact hP⟩, va_K.moved hW.alike hK⟩⟩ rfl hn hl.1 hst (lv_room hrm) hd hrc)
    (fun t H' ht hp h1 h4 h2 => by
      have hz : zP (G.ext b mc') (kE (G.ext b mc').2.2.2 F') H' := by obtain ⟨⟨f', q1, q2⟩, -⟩ := hp; exact ⟨f', q1, by rw [← ht]; exact q2⟩
      have h5 : b + mc' - 1 < H'.size := hz.lt _ (List.mem_append_right _ (List.mem_range'_1.mpr ⟨by omega, by omega⟩))
      exact hB' H H' hbb (by omega) (fun q g1 g2 => h2 q (by omega) (fun z => by rcases z with z | z; exact g2 z; omega)) hz) k
theorem J_new {q : Nat} {D : va_G} {cl : List vw_C} {tys : List (ClassId × FieldType)} (C : jC X cc nL own fr lo) (hK : va_K D cl tys X.s) {CN : String} {T : u_T} {N ci : Nat} {fs : List Value} (ty : Nat → FieldType) (hty : ∀ k, k < N → parseFieldDescriptor (T k).2.2.1 = some (ty k)) (hin : ∀ w ∈ u_ws CN T N, w ∈ zT) (hcl : Cond.classLink own index CN ∈ zT) (hinst : Cond.instantiable CN N ∈ zT) (hini : Cond.initialized CN ∈ zT) (hc : cl[ci]? = some (CN, T, N)) (hfs : ∀ j, j < N → defaultValue (ty j) = vp_V fs j) (hrc : X.cells + 1 ≤ X.R.cells ∧ X.slots + N ≤ X.R.slots) (hd : decode cc pc = .ok (.new index, 3))
    (hsz : ∀ H, B H → H.size = q) (hB' : ∀ H H', B H → H'.size = q + 1 → (∀ x, x < q → H'[x]? = H[x]?) → zP (D, cl, tys, [q]) (kE [q] (fun _ => .inr (ci, fs))) H' → B' H') (k : J (X.more 1 N) A nL Q B' (pc + 3) lv (.ref q :: st)) : J X A nL Q B pc lv st := by
  intro H locs ls hbb hS hl
  have hKn := hK.1 ci _ hc
  have hts := C.1.2.2.2.2
  have hsH := hsz H hbb
  refine W.newcK C.1.1 C.1.2.1 C.1.2.2.2.1 (hts _ hcl) (hts _ hinst) (hts _ hini) rfl hd hrc.1 hrc.2 hKn.2.1 hsH (fun H1 kC hkC e1 z1 o1 => ?_)
  refine k H1 locs ls (hB' H H1 hbb z1 o1 ⟨fun _ => .inr (ci, fs), fun a _ => rfl, fun j x hj => ?_⟩) ⟨Nat.le_trans hS.1 (by omega), fun x h1 h2 => (o1 x (by have : x < H.size := Nat.lt_of_lt_of_le h1 hS.1; omega)).trans (hS.2.1 x h1 h2), hS.2.2⟩ hl
  have hz : j < 1 := (List.getElem?_eq_some_iff.mp hj).1
  rw [show j = 0 by omega] at hj
  cases hj
  exact ⟨_, hc, (u_born ty hts hin hKn hkC e1 hty).to hfs⟩
theorem J_newa {q : Nat} {D : va_G} {cl : List vw_C} (C : jC X cc nL own fr lo) {atype : ArrayType} {ty : FieldType} (hty : newarray.typeOf atype = ty) (harr : Cond.arrayClass ty ∈ zT) {N' : Nat} {i : Int32} {a0 : vp_A} (hKc : va_K D cl [] X.s) (hob : ∀ C, ¬ ty = .object C) (ha : ∀ cA : ClassId, vp_cell cA a0 = arrV cA N' (fun _ => defaultValue ty)) (hn : ¬ i < 0) (hN : i.toNatClampNeg = N') (hbytes : N' * componentBytes ty ≤ 536870912) (hrc : X.cells + 1 ≤ X.R.cells ∧ X.slots + N' ≤ X.R.slots) (hd : decode cc pc = .ok (.newarray atype, 2))
    (hsz : ∀ H, B H → H.size = q) (k : ∀ cA, va_K D cl [(cA, ty)] X.s → J (X.more 1 N') A nL Q (fun H' => ∃ H, B H ∧ H'.size = q + 1 ∧ (∀ x, x < q → H'[x]? = H[x]?) ∧ zP (D, cl, [(cA, ty)], [q]) (kE [q] (fun _ => .inl (cA, a0))) H') (pc + 2) lv (.ref q :: st)) : J X A nL Q B pc lv (.int i :: st) := by
  intro H locs ls hbb hS hl
  have hts := C.1.2.2.2.2
  have hsH := hsz H hbb
  subst hty
  refine va_newaK C.1.1 C.1.2.1 (hts _ harr) rfl hd rfl hn hN hbytes hrc.1 hrc.2 hsH (fun H1 cA e1 z1 o1 hAr hNm => ?_)
  have hK1 : va_K D cl [(cA, newarray.typeOf atype)] X.s := ⟨hKc.1, fun j x hj => by
    have hz : j < 1 := (List.getElem?_eq_some_iff.mp hj).1
    rw [show j = 0 by omega] at hj
    cases hj
    refine ⟨hAr, ?_⟩
    revert hob hNm
    cases newarray.typeOf atype with
    | object C => intro hob; exact absurd rfl (hob C)
    | _ => intro _ h; exact h⟩
  refine k cA hK1 H1 locs ls ⟨H, hbb, z1, o1, fun _ => .inl (cA, a0), fun a _ => rfl, fun j x hj => ?_⟩ ⟨Nat.le_trans hS.1 (by omega), fun x h1 h2 => (o1 x (by have : x < H.size := Nat.lt_of_lt_of_le h1 hS.1; omega)).trans (hS.2.1 x h1 h2), hS.2.2⟩ hl
  have hz : j < 1 := (List.getElem?_eq_some_iff.mp hj).1
  rw [show j = 0 by omega] at hj
  cases hj
  show H1[q]? = some (vp_cell _ _)
  rw [ha]
  exact e1
theorem J_sld {bS L : Nat} {xs : Nat → Int32} {i : Int32} (C : jC X cc nL own fr lo) (hX : va_X bS L xs X.s X.s.heap) (hbl : bS < X.s.heap.size) (hbA : ¬ A bS) (hin : vp_in i L) (hd : decode cc pc = .ok (.iaload, 1)) (k : J X A nL Q B (pc + 1) lv (.int (xs i.toNatClampNeg) :: st)) : J X A nL Q B pc lv (.int i :: .ref bS :: st) := fun H locs ls hb hS hl =>
  va_sld C.1.1 C.1.2.1 hX hbl hbA hS hin hd (k H locs ls hb hS hl)
theorem J_slen {bS L : Nat} {xs : Nat → Int32} (C : jC X cc nL own fr lo) (hX : va_X bS L xs X.s X.s.heap) (hbl : bS < X.s.heap.size) (hbA : ¬ A bS) (hd : decode cc pc = .ok (.arraylength, 1)) (k : J X A nL Q B (pc + 1) lv (.int (Int32.ofNat L) :: st)) : J X A nL Q B pc lv (.ref bS :: st) := fun H locs ls hb hS hl =>
  va_slen C.1.1 C.1.2.1 hX hbl hbA hS hd (k H locs ls hb hS hl)
end JL
end
